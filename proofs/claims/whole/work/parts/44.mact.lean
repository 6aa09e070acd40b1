/-! the reference's acts -/
def MBR (l : List Int32) (M : Mem) : Prop := M 80 68 = nI l.length ∧ ∀ i, i < l.length → i < 20 → M 118 i = l.getD i 0
def FB (M M1 : Mem) : Prop := (∀ b, b ≠ 80 → b ≠ 118 → M1 b = M b) ∧ ∀ j, j ≠ 68 → M1 80 j = M 80 j
theorem FB.tr {M M1 M2 : Mem} (a : FB M M1) (b : FB M1 M2) : FB M M2 := ⟨fun q h1 h2 => (b.1 q h1 h2).trans (a.1 q h1 h2), fun j h => (b.2 j h).trans (a.2 j h)⟩
theorem MSt.fb {V : VT} {M M1 : Mem} (S : MSt V M) (f : FB M M1) : MSt V M1 := S.kept (fun j hj => f.2 j (by omega)) (fun b h1 h2 => f.1 b (by omega) (by omega))
theorem getD_a1 {l : List Int32} {b : Int32} {i : Nat} (h : i < l.length) : (l ++ [b]).getD i 0 = l.getD i 0 := by
  rw [List.getD_eq_getElem?_getD, List.getElem?_append_left h, ← List.getD_eq_getElem?_getD]
theorem getD_a2 {l : List Int32} {b : Int32} : (l ++ [b]).getD l.length 0 = b := by
  rw [List.getD_eq_getElem?_getD, List.getElem?_append_right (Nat.le_refl _), Nat.sub_self]
  rfl
def pW (i x : Int32) (l : List Int32) : Int32 × List Int32 := (x + i, l ++ [nI 10])
def wA (k : Nat) (v i x : Int32) (l : List Int32) : Int32 × List Int32 := match k with
  | 2 => pW i (x * nI 3) (l ++ [nI 30])
  | 5 => pW i (x * nI 3) (l ++ [nI 30])
  | 4 => (-(pW i x (l ++ [nI 50])).1, (pW i x (l ++ [nI 50])).2)
  | 6 => ((pW i x (l ++ [nI 71])).1 ^^^ v, (pW i x (l ++ [nI 71])).2)
  | _ => pW i x l
def pT_ (k : Nat) (v i x : Int32) (l : List Int32) : Int32 × List Int32 := ((wA k v i x (l ++ [nI 11])).1 - v, (wA k v i x (l ++ [nI 11])).2)
def oT_ (k : Nat) (v i x : Int32) (l : List Int32) : Int32 × List Int32 := ((pT_ k v i x (l ++ [nI 20])).1 ^^^ nI 6, (pT_ k v i x (l ++ [nI 20])).2)
def tA_ (k : Nat) (v i x : Int32) (l : List Int32) : Int32 × List Int32 := match k with
  | 1 => oT_ 1 v i x l
  | 4 => oT_ 4 v i (x + nI 1) (l ++ [nI 51])
  | 6 => ((pT_ 6 v i x (l ++ [nI 70])).1 + (pW i (nI 2) (pT_ 6 v i x (l ++ [nI 70])).2).1, (pW i (nI 2) (pT_ 6 v i x (l ++ [nI 70])).2).2)
  | k => pT_ k v i x l
def pH_ (k : Nat) (v i x : Int32) (l : List Int32) : Int32 × List Int32 := ((tA_ k v i x (l ++ [nI 12])).1 * nI 2, (tA_ k v i x (l ++ [nI 12])).2)
def hA_ (k : Nat) (v i x : Int32) (l : List Int32) : Int32 × List Int32 := match k with
  | 3 => ((pH_ 3 v i x (l ++ [nI 40])).1 + (tA_ 3 v i (nI 1) (pH_ 3 v i x (l ++ [nI 40])).2).1, (tA_ 3 v i (nI 1) (pH_ 3 v i x (l ++ [nI 40])).2).2)
  | 6 => ((pH_ 6 v i x (l ++ [nI 40])).1 + (tA_ 6 v i (nI 1) (pH_ 6 v i x (l ++ [nI 40])).2).1, (tA_ 6 v i (nI 1) (pH_ 6 v i x (l ++ [nI 40])).2).2)
  | 5 => pH_ 5 v i (x - i) (l ++ [nI 60])
  | k => pH_ k v i x l
set_option maxRecDepth 20000 in
theorem act_eq {v i x : Int32} {a k : Nat} (ha : a ≤ 2) (hk : k ≤ 6) : runL k v i 12 a k x [] = if a = 0 then wA k v i x [] else if a = 1 then tA_ k v i x [] else hA_ k v i x [] := by
  rcases (show a = 0 ∨ a = 1 ∨ a = 2 by omega) with rfl | rfl | rfl <;> rcases (show k = 0 ∨ k = 1 ∨ k = 2 ∨ k = 3 ∨ k = 4 ∨ k = 5 ∨ k = 6 by omega) with rfl | rfl | rfl | rfl | rfl | rfl | rfl <;> rfl
/-- an act's method: what it answers, what it writes down -/
def AcC (h : hp_T) (V : VT) (p D n c N : Nat) (fn : Int32 → List Int32 → Int32 × List Int32) : Prop := ∀ (x : Int32) (l : List Int32) (M : Mem), MSt V M → MBR l M → l.length ≤ N → Ei D n [.ref 80, .int (nI p), .int x] (wi h M) (fun r M1 => r = (fn x l).1 ∧ MBR (fn x l).2 M1 ∧ FB M M1 ∧ (fn x l).2.length ≤ l.length + c)
theorem AcC.up {h : hp_T} {V : VT} {p D n c N : Nat} {fn : Int32 → List Int32 → Int32 × List Int32} (a : AcC h V p D n c N fn) (x : Int32) {l : List Int32} {M : Mem} (S : MSt V M) (R : MBR l M) (hl : l.length ≤ N) : Ei D n [.ref 80, .int (nI p), .int x] (wi h M) (fun r M1 => r = (fn x l).1 ∧ MBR (fn x l).2 M1 ∧ FB M M1 ∧ (fn x l).2.length ≤ l.length + c) := a x l M S R hl
set_option maxRecDepth 10000 in
set_option maxHeartbeats 4000000 in
theorem m_body : ∀ (d : Nat) (b : Int32) {h : hp_T} {M : Mem} {l : List Int32} (C : CS h) (R : MBR l M) (hl : l.length ≤ 600), Ev d nX8_body [.ref 80, .int b] (wi h M) (fun M1 => MBR (l ++ [b]) M1 ∧ FB M M1) := by
  intro d b h M l C R hl
  have el : (l ++ [b]).length = l.length + 1 := by rw [List.length_append]; rfl
  refine Ex.of mm_X8_body (Nat.le_of_ble_eq_true rfl) fun w κ X hk hnm => ?_
  refine r_aload_n (pc := 0) X dX8_body_0 rfl ?_
  refine r_getiW (pc := 1) X dX8_body_1 tf_8_217 rfl (kc_80 C) R.1 ?_
  refine r_bipush (pc := 4) (v := (nI 20)) X dX8_body_4 (by decide) ?_
  refine r_icmp_geN (pc := 6) X dX8_body_6 (tgt := 19) (by decide) (by omega) (by omega) (fun c6 => ?_) (fun c6 => ?_)
  · refine r_aload_n (pc := 19) X dX8_body_19 rfl ?_
    refine r_dup (pc := 20) X dX8_body_20 rfl ?_
    refine r_getiW (pc := 21) X dX8_body_21 tf_8_217 rfl (kc_80 C) (by first | exact R.1 | (rw [mU_ne (by omega)]; exact R.1)) ?_
    refine r_iconst (pc := 24) (v := (nI 1)) X dX8_body_24 (by decide) ?_
    refine r_iadd (pc := 25) X dX8_body_25 ?_
    refine r_putiW (pc := 26) X dX8_body_26 tf_8_217 rfl (Or.inl rfl) (kc_80 C) ⟨rfl, rfl⟩ ?_
    refine r_vret (pc := 29) X dX8_body_29 rfl ?_
    refine ⟨⟨_, rfl, rfl, ⟨by rw [mU_eq, pk_us, nI_add, el], fun i hi h20 => ?_⟩, fun q h1 h2 => by rw [mU_ne h1], fun j hj => by rw [mU_eq, pk_un hj]⟩, rfl⟩
    rw [mU_ne (by omega)]
    rw [el] at hi
    rw [getD_a1 (by omega)]
    exact R.2 i (by omega) h20
  · refine r_aload_n (pc := 9) X dX8_body_9 rfl ?_
    refine r_getr (pc := 10) X dX8_body_10 tf_8_220 rfl (kc_80 C) (rc_80_69 C) ?_
    refine r_aload_n (pc := 13) X dX8_body_13 rfl ?_
    refine r_getiW (pc := 14) X dX8_body_14 tf_8_217 rfl (kc_80 C) R.1 ?_
    refine r_iload_n (pc := 17) X dX8_body_17 rfl ?_
    refine r_iastW (pc := 18) X dX8_body_18 (kc_118 C) rfl (show l.length < 20 by omega) (by omega) ?_
    refine r_aload_n (pc := 19) X dX8_body_19 rfl ?_
    refine r_dup (pc := 20) X dX8_body_20 rfl ?_
    refine r_getiW (pc := 21) X dX8_body_21 tf_8_217 rfl (kc_80 C) (by first | exact R.1 | (rw [mU_ne (by omega)]; exact R.1)) ?_
    refine r_iconst (pc := 24) (v := (nI 1)) X dX8_body_24 (by decide) ?_
    refine r_iadd (pc := 25) X dX8_body_25 ?_
    refine r_putiW (pc := 26) X dX8_body_26 tf_8_217 rfl (Or.inl rfl) (kc_80 C) ⟨rfl, rfl⟩ ?_
    refine r_vret (pc := 29) X dX8_body_29 rfl ?_
    refine ⟨⟨_, rfl, rfl, ⟨by rw [mU_eq, pk_us, nI_add, el], fun i hi h20 => ?_⟩, fun q h1 h2 => by rw [mU_ne h1, mU_ne h2], fun j hj => by rw [mU_eq, pk_un hj, mU_ne (by omega)]⟩, rfl⟩
    rw [mU_ne (by omega), mU_eq]
    rw [el] at hi
    by_cases e : i = l.length
    · rw [e, getD_a2, pk_us]
    · rw [pk_un e, getD_a1 (by omega)]
      exact R.2 i (by omega) h20
set_option maxRecDepth 10000 in
set_option maxHeartbeats 4000000 in
theorem m_pW : ∀ (d : Nat) {h : hp_T} {V : VT} {p : Nat} (C : CS h), AcC h V p (d + 1) nX8_personWaits 1 590 (pW (nI p)) := by
  intro d h V p C x l M S R hl
  refine Ex.of mm_X8_personWaits (Nat.le_of_ble_eq_true rfl) fun w κ X hk hnm => ?_
  refine r_aload_n (pc := 0) X dX8_personWaits_0 rfl ?_
  refine r_bipush (pc := 1) (v := (nI 10)) X dX8_personWaits_1 (by decide) ?_
  refine r_c0_1VW (pc := 3) X rfl dX8_personWaits_3 tc_8_386 mm_X8_body (kc_80 C) rfl rfl (m_body d (nI 10) C R (by omega)) (Nat.le_of_ble_eq_true rfl) (fun M3 q3 => ?_)
  refine r_iload_n (pc := 6) X dX8_personWaits_6 rfl ?_
  refine r_iload_n (pc := 7) X dX8_personWaits_7 rfl ?_
  refine r_iadd (pc := 8) X dX8_personWaits_8 ?_
  refine r_iret (pc := 9) X dX8_personWaits_9 rfl rfl ?_
  exact ⟨⟨_, M3, rfl, rfl, rfl, q3.1, q3.2, (by show (l ++ [nI 10]).length ≤ _; rw [List.length_append]; exact Nat.le_refl _)⟩, rfl⟩
set_option maxRecDepth 10000 in
set_option maxHeartbeats 4000000 in
theorem m_wA : ∀ (d : Nat) {h : hp_T} {V : VT} {B p k : Nat} (C : CS h) (hW : WF B V) (hp : p < 6) (hk6 : k ≤ 6) (ek : V 1 p = nI k), AcC h V p (d + 2) nX8_waitsAct 2 580 (fun x l => wA k (V 2 p) (nI p) x l) := by
  intro d h V B p k C hW hp hk6 ek x l M S R hl
  have ekk := fun (M2 : Mem) (S2 : MSt V M2) => (S2.a1 p).trans ek
  refine Ex.of mm_X8_waitsAct (Nat.le_of_ble_eq_true rfl) fun w κ X hk hnm => ?_
  rcases (show k = 0 ∨ k = 1 ∨ k = 2 ∨ k = 3 ∨ k = 4 ∨ k = 5 ∨ k = 6 by omega) with rfl | rfl | rfl | rfl | rfl | rfl | rfl
  · refine r_aload_n (pc := 0) X dX8_waitsAct_0 rfl ?_
    refine r_getr (pc := 1) X dX8_waitsAct_1 tf_8_25 rfl (kc_80 C) (rc_80_5 C) ?_
    refine r_iload_n (pc := 4) X dX8_waitsAct_4 rfl ?_
    refine r_ialdW (pc := 5) X dX8_waitsAct_5 (kc_81 C) rfl hp (by omega) (ekk M S) ?_
    refine r_tableOut (pc := 6) (tgt := 89) X dX8_waitsAct_6 (by decide) (by decide) ?_
    refine r_aload_n (pc := 89) X dX8_waitsAct_89 rfl ?_
    refine r_iload_n (pc := 90) X dX8_waitsAct_90 rfl ?_
    refine r_iload_n (pc := 91) X dX8_waitsAct_91 rfl ?_
    refine r_c0_2IW (pc := 92) X rfl dX8_waitsAct_92 tc_8_389 mm_X8_personWaits (kc_80 C) rfl rfl ((m_pW d C).up x S R (by omega)) (Nat.le_of_ble_eq_true rfl) (fun r92 M92 q92 => ?_)
    refine r_iret (pc := 95) X dX8_waitsAct_95 rfl rfl ?_
    exact ⟨⟨_, M92, rfl, rfl, q92.1, q92.2.1, q92.2.2.1, (Nat.le_trans q92.2.2.2 (by omega))⟩, rfl⟩
  · refine r_aload_n (pc := 0) X dX8_waitsAct_0 rfl ?_
    refine r_getr (pc := 1) X dX8_waitsAct_1 tf_8_25 rfl (kc_80 C) (rc_80_5 C) ?_
    refine r_iload_n (pc := 4) X dX8_waitsAct_4 rfl ?_
    refine r_ialdW (pc := 5) X dX8_waitsAct_5 (kc_81 C) rfl hp (by omega) (ekk M S) ?_
    refine r_tableOut (pc := 6) (tgt := 89) X dX8_waitsAct_6 (by decide) (by decide) ?_
    refine r_aload_n (pc := 89) X dX8_waitsAct_89 rfl ?_
    refine r_iload_n (pc := 90) X dX8_waitsAct_90 rfl ?_
    refine r_iload_n (pc := 91) X dX8_waitsAct_91 rfl ?_
    refine r_c0_2IW (pc := 92) X rfl dX8_waitsAct_92 tc_8_389 mm_X8_personWaits (kc_80 C) rfl rfl ((m_pW d C).up x S R (by omega)) (Nat.le_of_ble_eq_true rfl) (fun r92 M92 q92 => ?_)
    refine r_iret (pc := 95) X dX8_waitsAct_95 rfl rfl ?_
    exact ⟨⟨_, M92, rfl, rfl, q92.1, q92.2.1, q92.2.2.1, (Nat.le_trans q92.2.2.2 (by omega))⟩, rfl⟩
  · refine r_aload_n (pc := 0) X dX8_waitsAct_0 rfl ?_
    refine r_getr (pc := 1) X dX8_waitsAct_1 tf_8_25 rfl (kc_80 C) (rc_80_5 C) ?_
    refine r_iload_n (pc := 4) X dX8_waitsAct_4 rfl ?_
    refine r_ialdW (pc := 5) X dX8_waitsAct_5 (kc_81 C) rfl hp (by omega) (ekk M S) ?_
    refine r_tableIn (pc := 6) (tgt := 40) X dX8_waitsAct_6 (by decide) (by decide) rfl (by decide) ?_
    refine r_aload_n (pc := 40) X dX8_waitsAct_40 rfl ?_
    refine r_bipush (pc := 41) (v := (nI 30)) X dX8_waitsAct_41 (by decide) ?_
    refine r_c0_1VW (pc := 43) X rfl dX8_waitsAct_43 tc_8_386 mm_X8_body (kc_80 C) rfl rfl (m_body (d + 1) _ C R (by omega)) (Nat.le_of_ble_eq_true rfl) (fun M43 q43 => ?_)
    refine r_aload_n (pc := 46) X dX8_waitsAct_46 rfl ?_
    refine r_iload_n (pc := 47) X dX8_waitsAct_47 rfl ?_
    refine r_iload_n (pc := 48) X dX8_waitsAct_48 rfl ?_
    refine r_iconst (pc := 49) (v := (nI 3)) X dX8_waitsAct_49 (by decide) ?_
    refine r_imul (pc := 50) X dX8_waitsAct_50 ?_
    refine r_c0_2IW (pc := 51) X rfl dX8_waitsAct_51 tc_8_389 mm_X8_personWaits (kc_80 C) rfl rfl ((m_pW d C).up (x * nI 3) (S.fb q43.2) q43.1 (by rw [List.length_append]; show l.length + 1 ≤ 590; omega)) (Nat.le_of_ble_eq_true rfl) (fun r51 M51 q51 => ?_)
    refine r_iret (pc := 54) X dX8_waitsAct_54 rfl rfl ?_
    exact ⟨⟨_, M51, rfl, rfl, q51.1, q51.2.1, (q43.2.tr q51.2.2.1), (Nat.le_trans q51.2.2.2 (by rw [List.length_append]; show l.length + 1 + 1 ≤ _; omega))⟩, rfl⟩
  · refine r_aload_n (pc := 0) X dX8_waitsAct_0 rfl ?_
    refine r_getr (pc := 1) X dX8_waitsAct_1 tf_8_25 rfl (kc_80 C) (rc_80_5 C) ?_
    refine r_iload_n (pc := 4) X dX8_waitsAct_4 rfl ?_
    refine r_ialdW (pc := 5) X dX8_waitsAct_5 (kc_81 C) rfl hp (by omega) (ekk M S) ?_
    refine r_tableIn (pc := 6) (tgt := 89) X dX8_waitsAct_6 (by decide) (by decide) rfl (by decide) ?_
    refine r_aload_n (pc := 89) X dX8_waitsAct_89 rfl ?_
    refine r_iload_n (pc := 90) X dX8_waitsAct_90 rfl ?_
    refine r_iload_n (pc := 91) X dX8_waitsAct_91 rfl ?_
    refine r_c0_2IW (pc := 92) X rfl dX8_waitsAct_92 tc_8_389 mm_X8_personWaits (kc_80 C) rfl rfl ((m_pW d C).up x S R (by omega)) (Nat.le_of_ble_eq_true rfl) (fun r92 M92 q92 => ?_)
    refine r_iret (pc := 95) X dX8_waitsAct_95 rfl rfl ?_
    exact ⟨⟨_, M92, rfl, rfl, q92.1, q92.2.1, q92.2.2.1, (Nat.le_trans q92.2.2.2 (by omega))⟩, rfl⟩
  · refine r_aload_n (pc := 0) X dX8_waitsAct_0 rfl ?_
    refine r_getr (pc := 1) X dX8_waitsAct_1 tf_8_25 rfl (kc_80 C) (rc_80_5 C) ?_
    refine r_iload_n (pc := 4) X dX8_waitsAct_4 rfl ?_
    refine r_ialdW (pc := 5) X dX8_waitsAct_5 (kc_81 C) rfl hp (by omega) (ekk M S) ?_
    refine r_tableIn (pc := 6) (tgt := 55) X dX8_waitsAct_6 (by decide) (by decide) rfl (by decide) ?_
    refine r_aload_n (pc := 55) X dX8_waitsAct_55 rfl ?_
    refine r_bipush (pc := 56) (v := (nI 50)) X dX8_waitsAct_56 (by decide) ?_
    refine r_c0_1VW (pc := 58) X rfl dX8_waitsAct_58 tc_8_386 mm_X8_body (kc_80 C) rfl rfl (m_body (d + 1) _ C R (by omega)) (Nat.le_of_ble_eq_true rfl) (fun M58 q58 => ?_)
    refine r_aload_n (pc := 61) X dX8_waitsAct_61 rfl ?_
    refine r_iload_n (pc := 62) X dX8_waitsAct_62 rfl ?_
    refine r_iload_n (pc := 63) X dX8_waitsAct_63 rfl ?_
    refine r_c0_2IW (pc := 64) X rfl dX8_waitsAct_64 tc_8_389 mm_X8_personWaits (kc_80 C) rfl rfl ((m_pW d C).up x (S.fb q58.2) q58.1 (by rw [List.length_append]; show l.length + 1 ≤ 590; omega)) (Nat.le_of_ble_eq_true rfl) (fun r64 M64 q64 => ?_)
    refine r_ineg (pc := 67) X dX8_waitsAct_67 ?_
    refine r_iret (pc := 68) X dX8_waitsAct_68 rfl rfl ?_
    exact ⟨⟨_, M64, rfl, rfl, (congrArg (- ·) q64.1), q64.2.1, (q58.2.tr q64.2.2.1), (Nat.le_trans q64.2.2.2 (by rw [List.length_append]; show l.length + 1 + 1 ≤ _; omega))⟩, rfl⟩
  · refine r_aload_n (pc := 0) X dX8_waitsAct_0 rfl ?_
    refine r_getr (pc := 1) X dX8_waitsAct_1 tf_8_25 rfl (kc_80 C) (rc_80_5 C) ?_
    refine r_iload_n (pc := 4) X dX8_waitsAct_4 rfl ?_
    refine r_ialdW (pc := 5) X dX8_waitsAct_5 (kc_81 C) rfl hp (by omega) (ekk M S) ?_
    refine r_tableIn (pc := 6) (tgt := 40) X dX8_waitsAct_6 (by decide) (by decide) rfl (by decide) ?_
    refine r_aload_n (pc := 40) X dX8_waitsAct_40 rfl ?_
    refine r_bipush (pc := 41) (v := (nI 30)) X dX8_waitsAct_41 (by decide) ?_
    refine r_c0_1VW (pc := 43) X rfl dX8_waitsAct_43 tc_8_386 mm_X8_body (kc_80 C) rfl rfl (m_body (d + 1) _ C R (by omega)) (Nat.le_of_ble_eq_true rfl) (fun M43 q43 => ?_)
    refine r_aload_n (pc := 46) X dX8_waitsAct_46 rfl ?_
    refine r_iload_n (pc := 47) X dX8_waitsAct_47 rfl ?_
    refine r_iload_n (pc := 48) X dX8_waitsAct_48 rfl ?_
    refine r_iconst (pc := 49) (v := (nI 3)) X dX8_waitsAct_49 (by decide) ?_
    refine r_imul (pc := 50) X dX8_waitsAct_50 ?_
    refine r_c0_2IW (pc := 51) X rfl dX8_waitsAct_51 tc_8_389 mm_X8_personWaits (kc_80 C) rfl rfl ((m_pW d C).up (x * nI 3) (S.fb q43.2) q43.1 (by rw [List.length_append]; show l.length + 1 ≤ 590; omega)) (Nat.le_of_ble_eq_true rfl) (fun r51 M51 q51 => ?_)
    refine r_iret (pc := 54) X dX8_waitsAct_54 rfl rfl ?_
    exact ⟨⟨_, M51, rfl, rfl, q51.1, q51.2.1, (q43.2.tr q51.2.2.1), (Nat.le_trans q51.2.2.2 (by rw [List.length_append]; show l.length + 1 + 1 ≤ _; omega))⟩, rfl⟩
  · refine r_aload_n (pc := 0) X dX8_waitsAct_0 rfl ?_
    refine r_getr (pc := 1) X dX8_waitsAct_1 tf_8_25 rfl (kc_80 C) (rc_80_5 C) ?_
    refine r_iload_n (pc := 4) X dX8_waitsAct_4 rfl ?_
    refine r_ialdW (pc := 5) X dX8_waitsAct_5 (kc_81 C) rfl hp (by omega) (ekk M S) ?_
    refine r_tableIn (pc := 6) (tgt := 69) X dX8_waitsAct_6 (by decide) (by decide) rfl (by decide) ?_
    refine r_aload_n (pc := 69) X dX8_waitsAct_69 rfl ?_
    refine r_bipush (pc := 70) (v := (nI 71)) X dX8_waitsAct_70 (by decide) ?_
    refine r_c0_1VW (pc := 72) X rfl dX8_waitsAct_72 tc_8_386 mm_X8_body (kc_80 C) rfl rfl (m_body (d + 1) _ C R (by omega)) (Nat.le_of_ble_eq_true rfl) (fun M72 q72 => ?_)
    refine r_aload_n (pc := 75) X dX8_waitsAct_75 rfl ?_
    refine r_iload_n (pc := 76) X dX8_waitsAct_76 rfl ?_
    refine r_iload_n (pc := 77) X dX8_waitsAct_77 rfl ?_
    refine r_c0_2IW (pc := 78) X rfl dX8_waitsAct_78 tc_8_389 mm_X8_personWaits (kc_80 C) rfl rfl ((m_pW d C).up x (S.fb q72.2) q72.1 (by rw [List.length_append]; show l.length + 1 ≤ 590; omega)) (Nat.le_of_ble_eq_true rfl) (fun r78 M78 q78 => ?_)
    refine r_aload_n (pc := 81) X dX8_waitsAct_81 rfl ?_
    refine r_getr (pc := 82) X dX8_waitsAct_82 tf_8_29 rfl (kc_80 C) (rc_80_6 C) ?_
    refine r_iload_n (pc := 85) X dX8_waitsAct_85 rfl ?_
    refine r_ialdW (pc := 86) X dX8_waitsAct_86 (kc_82 C) rfl hp (by omega) ((S.fb (q72.2.tr q78.2.2.1)).a2 p) ?_
    refine r_ixor (pc := 87) X dX8_waitsAct_87 ?_
    refine r_iret (pc := 88) X dX8_waitsAct_88 rfl rfl ?_
    exact ⟨⟨_, M78, rfl, rfl, (congrArg (· ^^^ V 2 p) q78.1), q78.2.1, (q72.2.tr q78.2.2.1), (Nat.le_trans q78.2.2.2 (by rw [List.length_append]; show l.length + 1 + 1 ≤ _; omega))⟩, rfl⟩
set_option maxRecDepth 10000 in
set_option maxHeartbeats 4000000 in
theorem m_pT : ∀ (d : Nat) {h : hp_T} {V : VT} {B p k : Nat} (C : CS h) (hW : WF B V) (hp : p < 6) (hk6 : k ≤ 6) (ek : V 1 p = nI k), AcC h V p (d + 3) nX8_personTells 3 570 (fun x l => pT_ k (V 2 p) (nI p) x l) := by
  intro d h V B p k C hW hp hk6 ek x l M S R hl
  refine Ex.of mm_X8_personTells (Nat.le_of_ble_eq_true rfl) fun w κ X hk hnm => ?_
  refine r_aload_n (pc := 0) X dX8_personTells_0 rfl ?_
  refine r_bipush (pc := 1) (v := (nI 11)) X dX8_personTells_1 (by decide) ?_
  refine r_c0_1VW (pc := 3) X rfl dX8_personTells_3 tc_8_386 mm_X8_body (kc_80 C) rfl rfl (m_body (d + 2) (nI 11) C R (by omega)) (Nat.le_of_ble_eq_true rfl) (fun M3 q3 => ?_)
  refine r_aload_n (pc := 6) X dX8_personTells_6 rfl ?_
  refine r_iload_n (pc := 7) X dX8_personTells_7 rfl ?_
  refine r_iload_n (pc := 8) X dX8_personTells_8 rfl ?_
  refine r_c0_2IW (pc := 9) X rfl dX8_personTells_9 tc_8_392 mm_X8_waitsAct (kc_80 C) rfl rfl ((m_wA d C hW hp hk6 ek).up x (S.fb q3.2) q3.1 (by rw [List.length_append]; show l.length + 1 ≤ 580; omega)) (Nat.le_of_ble_eq_true rfl) (fun r9 M9 q9 => ?_)
  refine r_aload_n (pc := 12) X dX8_personTells_12 rfl ?_
  refine r_getr (pc := 13) X dX8_personTells_13 tf_8_29 rfl (kc_80 C) (rc_80_6 C) ?_
  refine r_iload_n (pc := 16) X dX8_personTells_16 rfl ?_
  refine r_ialdW (pc := 17) X dX8_personTells_17 (kc_82 C) rfl hp (by omega) ((S.fb (q3.2.tr q9.2.2.1)).a2 p) ?_
  refine r_isub (pc := 18) X dX8_personTells_18 ?_
  refine r_iret (pc := 19) X dX8_personTells_19 rfl rfl ?_
  exact ⟨⟨_, M9, rfl, rfl, congrArg (· - V 2 p) q9.1, q9.2.1, q3.2.tr q9.2.2.1, (Nat.le_trans q9.2.2.2 (by rw [List.length_append]; show l.length + 1 + 2 ≤ _; omega))⟩, rfl⟩
set_option maxRecDepth 10000 in
set_option maxHeartbeats 4000000 in
theorem m_oT : ∀ (d : Nat) {h : hp_T} {V : VT} {B p k : Nat} (C : CS h) (hW : WF B V) (hp : p < 6) (hk6 : k ≤ 6) (ek : V 1 p = nI k), AcC h V p (d + 4) nX8_oldTells 4 560 (fun x l => oT_ k (V 2 p) (nI p) x l) := by
  intro d h V B p k C hW hp hk6 ek x l M S R hl
  refine Ex.of mm_X8_oldTells (Nat.le_of_ble_eq_true rfl) fun w κ X hk hnm => ?_
  refine r_aload_n (pc := 0) X dX8_oldTells_0 rfl ?_
  refine r_bipush (pc := 1) (v := (nI 20)) X dX8_oldTells_1 (by decide) ?_
  refine r_c0_1VW (pc := 3) X rfl dX8_oldTells_3 tc_8_386 mm_X8_body (kc_80 C) rfl rfl (m_body (d + 3) (nI 20) C R (by omega)) (Nat.le_of_ble_eq_true rfl) (fun M3 q3 => ?_)
  refine r_aload_n (pc := 6) X dX8_oldTells_6 rfl ?_
  refine r_iload_n (pc := 7) X dX8_oldTells_7 rfl ?_
  refine r_iload_n (pc := 8) X dX8_oldTells_8 rfl ?_
  refine r_c0_2IW (pc := 9) X rfl dX8_oldTells_9 tc_8_395 mm_X8_personTells (kc_80 C) rfl rfl ((m_pT d C hW hp hk6 ek).up x (S.fb q3.2) q3.1 (by rw [List.length_append]; show l.length + 1 ≤ 570; omega)) (Nat.le_of_ble_eq_true rfl) (fun r9 M9 q9 => ?_)
  refine r_bipush (pc := 12) (v := (nI 6)) X dX8_oldTells_12 (by decide) ?_
  refine r_ixor (pc := 14) X dX8_oldTells_14 ?_
  refine r_iret (pc := 15) X dX8_oldTells_15 rfl rfl ?_
  exact ⟨⟨_, M9, rfl, rfl, congrArg (· ^^^ nI 6) q9.1, q9.2.1, q3.2.tr q9.2.2.1, (Nat.le_trans q9.2.2.2 (by rw [List.length_append]; show l.length + 1 + 3 ≤ _; omega))⟩, rfl⟩
set_option maxRecDepth 10000 in
set_option maxHeartbeats 4000000 in
theorem m_tA : ∀ (d : Nat) {h : hp_T} {V : VT} {B p k : Nat} (C : CS h) (hW : WF B V) (hp : p < 6) (hk6 : k ≤ 6) (ek : V 1 p = nI k), AcC h V p (d + 5) nX8_tellsAct 6 550 (fun x l => tA_ k (V 2 p) (nI p) x l) := by
  intro d h V B p k C hW hp hk6 ek x l M S R hl
  have ekk := fun (M2 : Mem) (S2 : MSt V M2) => (S2.a1 p).trans ek
  refine Ex.of mm_X8_tellsAct (Nat.le_of_ble_eq_true rfl) fun w κ X hk hnm => ?_
  rcases (show k = 0 ∨ k = 1 ∨ k = 2 ∨ k = 3 ∨ k = 4 ∨ k = 5 ∨ k = 6 by omega) with rfl | rfl | rfl | rfl | rfl | rfl | rfl
  · refine r_aload_n (pc := 0) X dX8_tellsAct_0 rfl ?_
    refine r_getr (pc := 1) X dX8_tellsAct_1 tf_8_25 rfl (kc_80 C) (rc_80_5 C) ?_
    refine r_iload_n (pc := 4) X dX8_tellsAct_4 rfl ?_
    refine r_ialdW (pc := 5) X dX8_tellsAct_5 (kc_81 C) rfl hp (by omega) (ekk M S) ?_
    refine r_lookup (pc := 6) (tgt := 84) (off := 78) X dX8_tellsAct_6 (by decide) (by decide) (by decide) ?_
    refine r_aload_n (pc := 84) X dX8_tellsAct_84 rfl ?_
    refine r_iload_n (pc := 85) X dX8_tellsAct_85 rfl ?_
    refine r_iload_n (pc := 86) X dX8_tellsAct_86 rfl ?_
    refine r_c0_2IW (pc := 87) X rfl dX8_tellsAct_87 tc_8_395 mm_X8_personTells (kc_80 C) rfl rfl ((m_pT (d + 1) C hW hp hk6 ek).up x S R (by omega)) (Nat.le_of_ble_eq_true rfl) (fun r87 M87 q87 => ?_)
    refine r_iret (pc := 90) X dX8_tellsAct_90 rfl rfl ?_
    exact ⟨⟨_, M87, rfl, rfl, q87.1, q87.2.1, q87.2.2.1, Nat.le_trans q87.2.2.2 (by omega)⟩, rfl⟩
  · refine r_aload_n (pc := 0) X dX8_tellsAct_0 rfl ?_
    refine r_getr (pc := 1) X dX8_tellsAct_1 tf_8_25 rfl (kc_80 C) (rc_80_5 C) ?_
    refine r_iload_n (pc := 4) X dX8_tellsAct_4 rfl ?_
    refine r_ialdW (pc := 5) X dX8_tellsAct_5 (kc_81 C) rfl hp (by omega) (ekk M S) ?_
    refine r_lookup (pc := 6) (tgt := 40) (off := 34) X dX8_tellsAct_6 (by decide) (by decide) (by decide) ?_
    refine r_aload_n (pc := 40) X dX8_tellsAct_40 rfl ?_
    refine r_iload_n (pc := 41) X dX8_tellsAct_41 rfl ?_
    refine r_iload_n (pc := 42) X dX8_tellsAct_42 rfl ?_
    refine r_c0_2IW (pc := 43) X rfl dX8_tellsAct_43 tc_8_398 mm_X8_oldTells (kc_80 C) rfl rfl ((m_oT d C hW hp hk6 ek).up x S R (by omega)) (Nat.le_of_ble_eq_true rfl) (fun r43 M43 q43 => ?_)
    refine r_iret (pc := 46) X dX8_tellsAct_46 rfl rfl ?_
    exact ⟨⟨_, M43, rfl, rfl, q43.1, q43.2.1, q43.2.2.1, Nat.le_trans q43.2.2.2 (by omega)⟩, rfl⟩
  · refine r_aload_n (pc := 0) X dX8_tellsAct_0 rfl ?_
    refine r_getr (pc := 1) X dX8_tellsAct_1 tf_8_25 rfl (kc_80 C) (rc_80_5 C) ?_
    refine r_iload_n (pc := 4) X dX8_tellsAct_4 rfl ?_
    refine r_ialdW (pc := 5) X dX8_tellsAct_5 (kc_81 C) rfl hp (by omega) (ekk M S) ?_
    refine r_lookup (pc := 6) (tgt := 84) (off := 78) X dX8_tellsAct_6 (by decide) (by decide) (by decide) ?_
    refine r_aload_n (pc := 84) X dX8_tellsAct_84 rfl ?_
    refine r_iload_n (pc := 85) X dX8_tellsAct_85 rfl ?_
    refine r_iload_n (pc := 86) X dX8_tellsAct_86 rfl ?_
    refine r_c0_2IW (pc := 87) X rfl dX8_tellsAct_87 tc_8_395 mm_X8_personTells (kc_80 C) rfl rfl ((m_pT (d + 1) C hW hp hk6 ek).up x S R (by omega)) (Nat.le_of_ble_eq_true rfl) (fun r87 M87 q87 => ?_)
    refine r_iret (pc := 90) X dX8_tellsAct_90 rfl rfl ?_
    exact ⟨⟨_, M87, rfl, rfl, q87.1, q87.2.1, q87.2.2.1, Nat.le_trans q87.2.2.2 (by omega)⟩, rfl⟩
  · refine r_aload_n (pc := 0) X dX8_tellsAct_0 rfl ?_
    refine r_getr (pc := 1) X dX8_tellsAct_1 tf_8_25 rfl (kc_80 C) (rc_80_5 C) ?_
    refine r_iload_n (pc := 4) X dX8_tellsAct_4 rfl ?_
    refine r_ialdW (pc := 5) X dX8_tellsAct_5 (kc_81 C) rfl hp (by omega) (ekk M S) ?_
    refine r_lookup (pc := 6) (tgt := 84) (off := 78) X dX8_tellsAct_6 (by decide) (by decide) (by decide) ?_
    refine r_aload_n (pc := 84) X dX8_tellsAct_84 rfl ?_
    refine r_iload_n (pc := 85) X dX8_tellsAct_85 rfl ?_
    refine r_iload_n (pc := 86) X dX8_tellsAct_86 rfl ?_
    refine r_c0_2IW (pc := 87) X rfl dX8_tellsAct_87 tc_8_395 mm_X8_personTells (kc_80 C) rfl rfl ((m_pT (d + 1) C hW hp hk6 ek).up x S R (by omega)) (Nat.le_of_ble_eq_true rfl) (fun r87 M87 q87 => ?_)
    refine r_iret (pc := 90) X dX8_tellsAct_90 rfl rfl ?_
    exact ⟨⟨_, M87, rfl, rfl, q87.1, q87.2.1, q87.2.2.1, Nat.le_trans q87.2.2.2 (by omega)⟩, rfl⟩
  · refine r_aload_n (pc := 0) X dX8_tellsAct_0 rfl ?_
    refine r_getr (pc := 1) X dX8_tellsAct_1 tf_8_25 rfl (kc_80 C) (rc_80_5 C) ?_
    refine r_iload_n (pc := 4) X dX8_tellsAct_4 rfl ?_
    refine r_ialdW (pc := 5) X dX8_tellsAct_5 (kc_81 C) rfl hp (by omega) (ekk M S) ?_
    refine r_lookup (pc := 6) (tgt := 47) (off := 41) X dX8_tellsAct_6 (by decide) (by decide) (by decide) ?_
    refine r_aload_n (pc := 47) X dX8_tellsAct_47 rfl ?_
    refine r_bipush (pc := 48) (v := (nI 51)) X dX8_tellsAct_48 (by decide) ?_
    refine r_c0_1VW (pc := 50) X rfl dX8_tellsAct_50 tc_8_386 mm_X8_body (kc_80 C) rfl rfl (m_body (d + 4) (nI 51) C R (by omega)) (Nat.le_of_ble_eq_true rfl) (fun M50 q50 => ?_)
    refine r_aload_n (pc := 53) X dX8_tellsAct_53 rfl ?_
    refine r_iload_n (pc := 54) X dX8_tellsAct_54 rfl ?_
    refine r_iload_n (pc := 55) X dX8_tellsAct_55 rfl ?_
    refine r_iconst (pc := 56) (v := (nI 1)) X dX8_tellsAct_56 (by decide) ?_
    refine r_iadd (pc := 57) X dX8_tellsAct_57 ?_
    refine r_c0_2IW (pc := 58) X rfl dX8_tellsAct_58 tc_8_398 mm_X8_oldTells (kc_80 C) rfl rfl ((m_oT d C hW hp hk6 ek).up (x + nI 1) (S.fb q50.2) q50.1 (by rw [List.length_append]; show l.length + 1 ≤ 560; omega)) (Nat.le_of_ble_eq_true rfl) (fun r58 M58 q58 => ?_)
    refine r_iret (pc := 61) X dX8_tellsAct_61 rfl rfl ?_
    exact ⟨⟨_, M58, rfl, rfl, q58.1, q58.2.1, q50.2.tr q58.2.2.1, (Nat.le_trans q58.2.2.2 (by rw [List.length_append]; show l.length + 1 + 4 ≤ _; omega))⟩, rfl⟩
  · refine r_aload_n (pc := 0) X dX8_tellsAct_0 rfl ?_
    refine r_getr (pc := 1) X dX8_tellsAct_1 tf_8_25 rfl (kc_80 C) (rc_80_5 C) ?_
    refine r_iload_n (pc := 4) X dX8_tellsAct_4 rfl ?_
    refine r_ialdW (pc := 5) X dX8_tellsAct_5 (kc_81 C) rfl hp (by omega) (ekk M S) ?_
    refine r_lookup (pc := 6) (tgt := 84) (off := 78) X dX8_tellsAct_6 (by decide) (by decide) (by decide) ?_
    refine r_aload_n (pc := 84) X dX8_tellsAct_84 rfl ?_
    refine r_iload_n (pc := 85) X dX8_tellsAct_85 rfl ?_
    refine r_iload_n (pc := 86) X dX8_tellsAct_86 rfl ?_
    refine r_c0_2IW (pc := 87) X rfl dX8_tellsAct_87 tc_8_395 mm_X8_personTells (kc_80 C) rfl rfl ((m_pT (d + 1) C hW hp hk6 ek).up x S R (by omega)) (Nat.le_of_ble_eq_true rfl) (fun r87 M87 q87 => ?_)
    refine r_iret (pc := 90) X dX8_tellsAct_90 rfl rfl ?_
    exact ⟨⟨_, M87, rfl, rfl, q87.1, q87.2.1, q87.2.2.1, Nat.le_trans q87.2.2.2 (by omega)⟩, rfl⟩
  · refine r_aload_n (pc := 0) X dX8_tellsAct_0 rfl ?_
    refine r_getr (pc := 1) X dX8_tellsAct_1 tf_8_25 rfl (kc_80 C) (rc_80_5 C) ?_
    refine r_iload_n (pc := 4) X dX8_tellsAct_4 rfl ?_
    refine r_ialdW (pc := 5) X dX8_tellsAct_5 (kc_81 C) rfl hp (by omega) (ekk M S) ?_
    refine r_lookup (pc := 6) (tgt := 62) (off := 56) X dX8_tellsAct_6 (by decide) (by decide) (by decide) ?_
    refine r_aload_n (pc := 62) X dX8_tellsAct_62 rfl ?_
    refine r_bipush (pc := 63) (v := (nI 70)) X dX8_tellsAct_63 (by decide) ?_
    refine r_c0_1VW (pc := 65) X rfl dX8_tellsAct_65 tc_8_386 mm_X8_body (kc_80 C) rfl rfl (m_body (d + 4) (nI 70) C R (by omega)) (Nat.le_of_ble_eq_true rfl) (fun M65 q65 => ?_)
    refine r_aload_n (pc := 68) X dX8_tellsAct_68 rfl ?_
    refine r_iload_n (pc := 69) X dX8_tellsAct_69 rfl ?_
    refine r_iload_n (pc := 70) X dX8_tellsAct_70 rfl ?_
    refine r_c0_2IW (pc := 71) X rfl dX8_tellsAct_71 tc_8_395 mm_X8_personTells (kc_80 C) rfl rfl ((m_pT (d + 1) C hW hp hk6 ek).up x (S.fb q65.2) q65.1 (by rw [List.length_append]; show l.length + 1 ≤ 570; omega)) (Nat.le_of_ble_eq_true rfl) (fun r71 M71 q71 => ?_)
    have b9 := q71.2.2.2
    rw [List.length_append] at b9
    have b9 : _ ≤ l.length + 1 + 3 := b9
    refine r_istore_n (pc := 74) X dX8_tellsAct_74 (Nat.le_of_ble_eq_true rfl) ?_
    refine r_iload_n (pc := 75) X dX8_tellsAct_75 rfl ?_
    refine r_aload_n (pc := 76) X dX8_tellsAct_76 rfl ?_
    refine r_iload_n (pc := 77) X dX8_tellsAct_77 rfl ?_
    refine r_iconst (pc := 78) (v := (nI 2)) X dX8_tellsAct_78 (by decide) ?_
    refine r_c0_2IW (pc := 79) X rfl dX8_tellsAct_79 tc_8_389 mm_X8_personWaits (kc_80 C) rfl rfl ((m_pW (d + 3) C).up (nI 2) (S.fb (q65.2.tr q71.2.2.1)) q71.2.1 (Nat.le_trans b9 (by omega))) (Nat.le_of_ble_eq_true rfl) (fun r79 M79 q79 => ?_)
    refine r_iadd (pc := 82) X dX8_tellsAct_82 ?_
    refine r_iret (pc := 83) X dX8_tellsAct_83 rfl rfl ?_
    have y4 := q79.2.2.2
    exact ⟨⟨_, M79, rfl, rfl, (congrArg (· + _) q71.1).trans (congrArg (_ + ·) q79.1), q79.2.1, (q65.2.tr q71.2.2.1).tr q79.2.2.1, (Nat.le_trans q79.2.2.2 (Nat.le_trans (Nat.add_le_add_right b9 1) (by omega)))⟩, rfl⟩
set_option maxRecDepth 10000 in
set_option maxHeartbeats 4000000 in
theorem m_pH : ∀ (d : Nat) {h : hp_T} {V : VT} {B p k : Nat} (C : CS h) (hW : WF B V) (hp : p < 6) (hk6 : k ≤ 6) (ek : V 1 p = nI k), AcC h V p (d + 6) nX8_personHopes 7 540 (fun x l => pH_ k (V 2 p) (nI p) x l) := by
  intro d h V B p k C hW hp hk6 ek x l M S R hl
  refine Ex.of mm_X8_personHopes (Nat.le_of_ble_eq_true rfl) fun w κ X hk hnm => ?_
  refine r_aload_n (pc := 0) X dX8_personHopes_0 rfl ?_
  refine r_bipush (pc := 1) (v := (nI 12)) X dX8_personHopes_1 (by decide) ?_
  refine r_c0_1VW (pc := 3) X rfl dX8_personHopes_3 tc_8_386 mm_X8_body (kc_80 C) rfl rfl (m_body (d + 5) (nI 12) C R (by omega)) (Nat.le_of_ble_eq_true rfl) (fun M3 q3 => ?_)
  refine r_aload_n (pc := 6) X dX8_personHopes_6 rfl ?_
  refine r_iload_n (pc := 7) X dX8_personHopes_7 rfl ?_
  refine r_iload_n (pc := 8) X dX8_personHopes_8 rfl ?_
  refine r_c0_2IW (pc := 9) X rfl dX8_personHopes_9 tc_8_401 mm_X8_tellsAct (kc_80 C) rfl rfl ((m_tA d C hW hp hk6 ek).up x (S.fb q3.2) q3.1 (by rw [List.length_append]; show l.length + 1 ≤ 550; omega)) (Nat.le_of_ble_eq_true rfl) (fun r9 M9 q9 => ?_)
  refine r_iconst (pc := 12) (v := (nI 2)) X dX8_personHopes_12 (by decide) ?_
  refine r_imul (pc := 13) X dX8_personHopes_13 ?_
  refine r_iret (pc := 14) X dX8_personHopes_14 rfl rfl ?_
  exact ⟨⟨_, M9, rfl, rfl, congrArg (· * nI 2) q9.1, q9.2.1, q3.2.tr q9.2.2.1, (Nat.le_trans q9.2.2.2 (by rw [List.length_append]; show l.length + 1 + 6 ≤ _; omega))⟩, rfl⟩
set_option maxRecDepth 10000 in
set_option maxHeartbeats 4000000 in
theorem m_hA : ∀ (d : Nat) {h : hp_T} {V : VT} {B p k : Nat} (C : CS h) (hW : WF B V) (hp : p < 6) (hk6 : k ≤ 6) (ek : V 1 p = nI k), AcC h V p (d + 7) nX8_hopesAct 20 530 (fun x l => hA_ k (V 2 p) (nI p) x l) := by
  intro d h V B p k C hW hp hk6 ek x l M S R hl
  have ekk := fun (M2 : Mem) (S2 : MSt V M2) => (S2.a1 p).trans ek
  refine Ex.of mm_X8_hopesAct (Nat.le_of_ble_eq_true rfl) fun w κ X hk hnm => ?_
  rcases (show k = 0 ∨ k = 1 ∨ k = 2 ∨ k = 3 ∨ k = 4 ∨ k = 5 ∨ k = 6 by omega) with rfl | rfl | rfl | rfl | rfl | rfl | rfl
  · refine r_aload_n (pc := 0) X dX8_hopesAct_0 rfl ?_
    refine r_getr (pc := 1) X dX8_hopesAct_1 tf_8_25 rfl (kc_80 C) (rc_80_5 C) ?_
    refine r_iload_n (pc := 4) X dX8_hopesAct_4 rfl ?_
    refine r_ialdW (pc := 5) X dX8_hopesAct_5 (kc_81 C) rfl hp (by omega) (ekk M S) ?_
    refine r_tableOut (pc := 6) (tgt := 73) X dX8_hopesAct_6 (by decide) (by decide) ?_
    refine r_aload_n (pc := 73) X dX8_hopesAct_73 rfl ?_
    refine r_iload_n (pc := 74) X dX8_hopesAct_74 rfl ?_
    refine r_iload_n (pc := 75) X dX8_hopesAct_75 rfl ?_
    refine r_c0_2IW (pc := 76) X rfl dX8_hopesAct_76 tc_8_404 mm_X8_personHopes (kc_80 C) rfl rfl ((m_pH d C hW hp hk6 ek).up x S R (by omega)) (Nat.le_of_ble_eq_true rfl) (fun r76 M76 q76 => ?_)
    refine r_iret (pc := 79) X dX8_hopesAct_79 rfl rfl ?_
    exact ⟨⟨_, M76, rfl, rfl, q76.1, q76.2.1, q76.2.2.1, Nat.le_trans q76.2.2.2 (by omega)⟩, rfl⟩
  · refine r_aload_n (pc := 0) X dX8_hopesAct_0 rfl ?_
    refine r_getr (pc := 1) X dX8_hopesAct_1 tf_8_25 rfl (kc_80 C) (rc_80_5 C) ?_
    refine r_iload_n (pc := 4) X dX8_hopesAct_4 rfl ?_
    refine r_ialdW (pc := 5) X dX8_hopesAct_5 (kc_81 C) rfl hp (by omega) (ekk M S) ?_
    refine r_tableOut (pc := 6) (tgt := 73) X dX8_hopesAct_6 (by decide) (by decide) ?_
    refine r_aload_n (pc := 73) X dX8_hopesAct_73 rfl ?_
    refine r_iload_n (pc := 74) X dX8_hopesAct_74 rfl ?_
    refine r_iload_n (pc := 75) X dX8_hopesAct_75 rfl ?_
    refine r_c0_2IW (pc := 76) X rfl dX8_hopesAct_76 tc_8_404 mm_X8_personHopes (kc_80 C) rfl rfl ((m_pH d C hW hp hk6 ek).up x S R (by omega)) (Nat.le_of_ble_eq_true rfl) (fun r76 M76 q76 => ?_)
    refine r_iret (pc := 79) X dX8_hopesAct_79 rfl rfl ?_
    exact ⟨⟨_, M76, rfl, rfl, q76.1, q76.2.1, q76.2.2.1, Nat.le_trans q76.2.2.2 (by omega)⟩, rfl⟩
  · refine r_aload_n (pc := 0) X dX8_hopesAct_0 rfl ?_
    refine r_getr (pc := 1) X dX8_hopesAct_1 tf_8_25 rfl (kc_80 C) (rc_80_5 C) ?_
    refine r_iload_n (pc := 4) X dX8_hopesAct_4 rfl ?_
    refine r_ialdW (pc := 5) X dX8_hopesAct_5 (kc_81 C) rfl hp (by omega) (ekk M S) ?_
    refine r_tableOut (pc := 6) (tgt := 73) X dX8_hopesAct_6 (by decide) (by decide) ?_
    refine r_aload_n (pc := 73) X dX8_hopesAct_73 rfl ?_
    refine r_iload_n (pc := 74) X dX8_hopesAct_74 rfl ?_
    refine r_iload_n (pc := 75) X dX8_hopesAct_75 rfl ?_
    refine r_c0_2IW (pc := 76) X rfl dX8_hopesAct_76 tc_8_404 mm_X8_personHopes (kc_80 C) rfl rfl ((m_pH d C hW hp hk6 ek).up x S R (by omega)) (Nat.le_of_ble_eq_true rfl) (fun r76 M76 q76 => ?_)
    refine r_iret (pc := 79) X dX8_hopesAct_79 rfl rfl ?_
    exact ⟨⟨_, M76, rfl, rfl, q76.1, q76.2.1, q76.2.2.1, Nat.le_trans q76.2.2.2 (by omega)⟩, rfl⟩
  · refine r_aload_n (pc := 0) X dX8_hopesAct_0 rfl ?_
    refine r_getr (pc := 1) X dX8_hopesAct_1 tf_8_25 rfl (kc_80 C) (rc_80_5 C) ?_
    refine r_iload_n (pc := 4) X dX8_hopesAct_4 rfl ?_
    refine r_ialdW (pc := 5) X dX8_hopesAct_5 (kc_81 C) rfl hp (by omega) (ekk M S) ?_
    refine r_tableIn (pc := 6) (tgt := 36) X dX8_hopesAct_6 (by decide) (by decide) rfl (by decide) ?_
    refine r_aload_n (pc := 36) X dX8_hopesAct_36 rfl ?_
    refine r_bipush (pc := 37) (v := (nI 40)) X dX8_hopesAct_37 (by decide) ?_
    refine r_c0_1VW (pc := 39) X rfl dX8_hopesAct_39 tc_8_386 mm_X8_body (kc_80 C) rfl rfl (m_body (d + 6) (nI 40) C R (by omega)) (Nat.le_of_ble_eq_true rfl) (fun M39 q39 => ?_)
    refine r_aload_n (pc := 42) X dX8_hopesAct_42 rfl ?_
    refine r_iload_n (pc := 43) X dX8_hopesAct_43 rfl ?_
    refine r_iload_n (pc := 44) X dX8_hopesAct_44 rfl ?_
    refine r_c0_2IW (pc := 45) X rfl dX8_hopesAct_45 tc_8_404 mm_X8_personHopes (kc_80 C) rfl rfl ((m_pH d C hW hp hk6 ek).up x (S.fb q39.2) q39.1 (by rw [List.length_append]; show l.length + 1 ≤ 540; omega)) (Nat.le_of_ble_eq_true rfl) (fun r45 M45 q45 => ?_)
    have b9 := q45.2.2.2
    rw [List.length_append] at b9
    have b9 : _ ≤ l.length + 1 + 7 := b9
    refine r_istore_n (pc := 48) X dX8_hopesAct_48 (Nat.le_of_ble_eq_true rfl) ?_
    refine r_iload_n (pc := 49) X dX8_hopesAct_49 rfl ?_
    refine r_aload_n (pc := 50) X dX8_hopesAct_50 rfl ?_
    refine r_iload_n (pc := 51) X dX8_hopesAct_51 rfl ?_
    refine r_iconst (pc := 52) (v := (nI 1)) X dX8_hopesAct_52 (by decide) ?_
    refine r_c0_2IW (pc := 53) X rfl dX8_hopesAct_53 tc_8_401 mm_X8_tellsAct (kc_80 C) rfl rfl ((m_tA (d + 1) C hW hp hk6 ek).up (nI 1) (S.fb (q39.2.tr q45.2.2.1)) q45.2.1 (Nat.le_trans b9 (by omega))) (Nat.le_of_ble_eq_true rfl) (fun r53 M53 q53 => ?_)
    refine r_iadd (pc := 56) X dX8_hopesAct_56 ?_
    refine r_iret (pc := 57) X dX8_hopesAct_57 rfl rfl ?_
    have y4 := q53.2.2.2
    exact ⟨⟨_, M53, rfl, rfl, (congrArg (· + _) q45.1).trans (congrArg (_ + ·) q53.1), q53.2.1, (q39.2.tr q45.2.2.1).tr q53.2.2.1, (Nat.le_trans q53.2.2.2 (Nat.le_trans (Nat.add_le_add_right b9 6) (by omega)))⟩, rfl⟩
  · refine r_aload_n (pc := 0) X dX8_hopesAct_0 rfl ?_
    refine r_getr (pc := 1) X dX8_hopesAct_1 tf_8_25 rfl (kc_80 C) (rc_80_5 C) ?_
    refine r_iload_n (pc := 4) X dX8_hopesAct_4 rfl ?_
    refine r_ialdW (pc := 5) X dX8_hopesAct_5 (kc_81 C) rfl hp (by omega) (ekk M S) ?_
    refine r_tableIn (pc := 6) (tgt := 73) X dX8_hopesAct_6 (by decide) (by decide) rfl (by decide) ?_
    refine r_aload_n (pc := 73) X dX8_hopesAct_73 rfl ?_
    refine r_iload_n (pc := 74) X dX8_hopesAct_74 rfl ?_
    refine r_iload_n (pc := 75) X dX8_hopesAct_75 rfl ?_
    refine r_c0_2IW (pc := 76) X rfl dX8_hopesAct_76 tc_8_404 mm_X8_personHopes (kc_80 C) rfl rfl ((m_pH d C hW hp hk6 ek).up x S R (by omega)) (Nat.le_of_ble_eq_true rfl) (fun r76 M76 q76 => ?_)
    refine r_iret (pc := 79) X dX8_hopesAct_79 rfl rfl ?_
    exact ⟨⟨_, M76, rfl, rfl, q76.1, q76.2.1, q76.2.2.1, Nat.le_trans q76.2.2.2 (by omega)⟩, rfl⟩
  · refine r_aload_n (pc := 0) X dX8_hopesAct_0 rfl ?_
    refine r_getr (pc := 1) X dX8_hopesAct_1 tf_8_25 rfl (kc_80 C) (rc_80_5 C) ?_
    refine r_iload_n (pc := 4) X dX8_hopesAct_4 rfl ?_
    refine r_ialdW (pc := 5) X dX8_hopesAct_5 (kc_81 C) rfl hp (by omega) (ekk M S) ?_
    refine r_tableIn (pc := 6) (tgt := 58) X dX8_hopesAct_6 (by decide) (by decide) rfl (by decide) ?_
    refine r_aload_n (pc := 58) X dX8_hopesAct_58 rfl ?_
    refine r_bipush (pc := 59) (v := (nI 60)) X dX8_hopesAct_59 (by decide) ?_
    refine r_c0_1VW (pc := 61) X rfl dX8_hopesAct_61 tc_8_386 mm_X8_body (kc_80 C) rfl rfl (m_body (d + 6) (nI 60) C R (by omega)) (Nat.le_of_ble_eq_true rfl) (fun M61 q61 => ?_)
    refine r_aload_n (pc := 64) X dX8_hopesAct_64 rfl ?_
    refine r_iload_n (pc := 65) X dX8_hopesAct_65 rfl ?_
    refine r_iload_n (pc := 66) X dX8_hopesAct_66 rfl ?_
    refine r_iload_n (pc := 67) X dX8_hopesAct_67 rfl ?_
    refine r_isub (pc := 68) X dX8_hopesAct_68 ?_
    refine r_c0_2IW (pc := 69) X rfl dX8_hopesAct_69 tc_8_404 mm_X8_personHopes (kc_80 C) rfl rfl ((m_pH d C hW hp hk6 ek).up (x - nI p) (S.fb q61.2) q61.1 (by rw [List.length_append]; show l.length + 1 ≤ 540; omega)) (Nat.le_of_ble_eq_true rfl) (fun r69 M69 q69 => ?_)
    refine r_iret (pc := 72) X dX8_hopesAct_72 rfl rfl ?_
    exact ⟨⟨_, M69, rfl, rfl, q69.1, q69.2.1, q61.2.tr q69.2.2.1, (Nat.le_trans q69.2.2.2 (by rw [List.length_append]; show l.length + 1 + 7 ≤ _; omega))⟩, rfl⟩
  · refine r_aload_n (pc := 0) X dX8_hopesAct_0 rfl ?_
    refine r_getr (pc := 1) X dX8_hopesAct_1 tf_8_25 rfl (kc_80 C) (rc_80_5 C) ?_
    refine r_iload_n (pc := 4) X dX8_hopesAct_4 rfl ?_
    refine r_ialdW (pc := 5) X dX8_hopesAct_5 (kc_81 C) rfl hp (by omega) (ekk M S) ?_
    refine r_tableIn (pc := 6) (tgt := 36) X dX8_hopesAct_6 (by decide) (by decide) rfl (by decide) ?_
    refine r_aload_n (pc := 36) X dX8_hopesAct_36 rfl ?_
    refine r_bipush (pc := 37) (v := (nI 40)) X dX8_hopesAct_37 (by decide) ?_
    refine r_c0_1VW (pc := 39) X rfl dX8_hopesAct_39 tc_8_386 mm_X8_body (kc_80 C) rfl rfl (m_body (d + 6) (nI 40) C R (by omega)) (Nat.le_of_ble_eq_true rfl) (fun M39 q39 => ?_)
    refine r_aload_n (pc := 42) X dX8_hopesAct_42 rfl ?_
    refine r_iload_n (pc := 43) X dX8_hopesAct_43 rfl ?_
    refine r_iload_n (pc := 44) X dX8_hopesAct_44 rfl ?_
    refine r_c0_2IW (pc := 45) X rfl dX8_hopesAct_45 tc_8_404 mm_X8_personHopes (kc_80 C) rfl rfl ((m_pH d C hW hp hk6 ek).up x (S.fb q39.2) q39.1 (by rw [List.length_append]; show l.length + 1 ≤ 540; omega)) (Nat.le_of_ble_eq_true rfl) (fun r45 M45 q45 => ?_)
    have b9 := q45.2.2.2
    rw [List.length_append] at b9
    have b9 : _ ≤ l.length + 1 + 7 := b9
    refine r_istore_n (pc := 48) X dX8_hopesAct_48 (Nat.le_of_ble_eq_true rfl) ?_
    refine r_iload_n (pc := 49) X dX8_hopesAct_49 rfl ?_
    refine r_aload_n (pc := 50) X dX8_hopesAct_50 rfl ?_
    refine r_iload_n (pc := 51) X dX8_hopesAct_51 rfl ?_
    refine r_iconst (pc := 52) (v := (nI 1)) X dX8_hopesAct_52 (by decide) ?_
    refine r_c0_2IW (pc := 53) X rfl dX8_hopesAct_53 tc_8_401 mm_X8_tellsAct (kc_80 C) rfl rfl ((m_tA (d + 1) C hW hp hk6 ek).up (nI 1) (S.fb (q39.2.tr q45.2.2.1)) q45.2.1 (Nat.le_trans b9 (by omega))) (Nat.le_of_ble_eq_true rfl) (fun r53 M53 q53 => ?_)
    refine r_iadd (pc := 56) X dX8_hopesAct_56 ?_
    refine r_iret (pc := 57) X dX8_hopesAct_57 rfl rfl ?_
    have y4 := q53.2.2.2
    exact ⟨⟨_, M53, rfl, rfl, (congrArg (· + _) q45.1).trans (congrArg (_ + ·) q53.1), q53.2.1, (q39.2.tr q45.2.2.1).tr q53.2.2.1, (Nat.le_trans q53.2.2.2 (Nat.le_trans (Nat.add_le_add_right b9 6) (by omega)))⟩, rfl⟩
set_option maxRecDepth 10000 in
set_option maxHeartbeats 4000000 in
theorem n_act : ∀ (d : Nat) (p a x : Int32) {σ : SG} {h : hp_T} {M : Mem} {B0 : Nat} (C : CS h) (Q : MRep σ M (h_l h)) (O : OK B0 σ), Ex (d + 9) nX8_act [.ref 80, .int p, .int a, .int x] (wi h M) 0 0 (QM (f_act σ p a x) h M) := by
  intro d p a x σ h M B0 C Q O
  refine Ex.of mm_X8_act (Nat.le_of_ble_eq_true rfl) fun w κ X hk hnm => ?_
  refine r_aload_n (pc := 0) X dX8_act_0 rfl ?_
  refine r_iconst (pc := 1) (v := (nI 0)) X dX8_act_1 (by decide) ?_
  refine r_putiW (pc := 2) X dX8_act_2 tf_8_217 rfl (Or.inl rfl) (kc_80 C) ⟨rfl, rfl⟩ ?_
  have S0 : MSt (sV σ) (mU M 80 (upd (M 80) 68 (nI 0))) := Q.s.slot (by omega)
  have R0 : MBR [] (mU M 80 (upd (M 80) 68 (nI 0))) := ⟨by rw [mU_eq]; exact pk_us, fun i hi => absurd hi (Nat.not_lt_zero _)⟩
  refine r_aload_n (pc := 5) X dX8_act_5 rfl ?_
  refine r_iload_n (pc := 6) X dX8_act_6 rfl ?_
  refine r_c0_1P (pc := 7) X rfl dX8_act_7 tc_8_247 mm_X8_isPerson (kc_80 C) rfl rfl (m_isPerson (d + 7) p C S0 O.w) (Nat.le_of_ble_eq_true rfl) ?_
  refine r_if_eqB (pc := 10) X dX8_act_10 (tgt := 23) (by decide) (fun c10 => ?_) (fun c10 => ?_)
  · refine r_iconst (pc := 23) (v := (nI 0)) X dX8_act_23 (by decide) ?_
    refine r_iret (pc := 24) X dX8_act_24 rfl rfl ?_
    have q9 := Q.setBl (M1 := mU M 80 (upd (M 80) 68 (nI 0))) (l := []) (fun j hj => by rw [mU_eq]; exact pk_un hj) (fun b h1 h2 => mU_ne h1) ⟨by rw [mU_eq]; exact pk_us, fun i hi => absurd hi (Nat.not_lt_zero _)⟩
    refine ⟨QM.mk ?_ q9 (FM.in fun b hb => mU_ne (by omega)), rfl⟩
    simp (decide := true) [f_act, c10]
  · refine r_aload_n (pc := 13) X dX8_act_13 rfl ?_
    refine r_iload_n (pc := 14) X dX8_act_14 rfl ?_
    refine r_iconst (pc := 15) (v := (nI 0)) X dX8_act_15 (by decide) ?_
    refine r_iconst (pc := 16) (v := (nI 2)) X dX8_act_16 (by decide) ?_
    refine r_c0_3P (pc := 17) X rfl dX8_act_17 tc_8_236 mm_X8_in (kc_80 C) rfl rfl (m_in (d + 8) a (nI 0) (nI 2)) (Nat.le_of_ble_eq_true rfl) ?_
    refine r_if_neB (pc := 20) X dX8_act_20 (tgt := 25) (by decide) (fun c20 => ?_) (fun c20 => ?_)
    · obtain ⟨p, hp, hp6, rfl⟩ := has_nat O.w c10
      have cp := nI_clamp (show p < 2 ^ 31 by omega)
      obtain ⟨t, -, ht, rfl⟩ := inF_lo c20 (by omega) (by omega)
      have ct := nI_clamp (show t < 2 ^ 31 by omega)
      obtain ⟨⟨kn, hkn, ekn⟩, -⟩ := O.w.2.2.2.2.2.2.1 p hp6
      have ck9 : (sV σ 1 p).toNatClampNeg = kn := by rw [ekn]; exact nI_clamp (by omega)
      refine r_iload_n (pc := 25) X dX8_act_25 rfl ?_
      refine r_if_ne (pc := 26) X dX8_act_26 (tgt := 38) (by decide) (fun c26 => ?_) (fun c26 => ?_)
      · refine r_iload_n (pc := 38) X dX8_act_38 rfl ?_
        refine r_iconst (pc := 39) (v := (nI 1)) X dX8_act_39 (by decide) ?_
        refine r_icmp_neN (pc := 40) X dX8_act_40 (tgt := 52) (by decide) (by omega) (by omega) (fun c40 => ?_) (fun c40 => ?_)
        · refine r_aload_n (pc := 52) X dX8_act_52 rfl ?_
          refine r_iload_n (pc := 53) X dX8_act_53 rfl ?_
          refine r_iload_n (pc := 54) X dX8_act_54 rfl ?_
          refine r_c0_2IW (pc := 55) X rfl dX8_act_55 tc_8_407 mm_X8_hopesAct (kc_80 C) rfl rfl ((m_hA (d + 1) C O.w hp6 hkn ekn).up x S0 R0 (by decide)) (Nat.le_of_ble_eq_true rfl) (fun r55 M55 q55 => ?_)
          refine r_iret (pc := 58) X dX8_act_58 rfl rfl ?_
          have e9 : runL kn (sV σ 2 p) (nI p) 12 t kn x [] = hA_ kn (sV σ 2 p) (nI p) x [] := by rw [act_eq ht hkn]; exact (if_neg (fun z => c26 (by rw [z]; rfl))).trans (if_neg c40)
          obtain ⟨z1, z2, z3, z4⟩ := q55
          have hl20 := runL_len (v := sV σ 2 p) (i := nI p) (x := x) ht hkn
          rw [← e9] at z1 z2
          have q9 := Q.setBl (M1 := M55) (fun j hj => (z3.2 j hj).trans (by rw [mU_eq]; exact pk_un hj)) (fun b h1 h2 => (z3.1 b h1 h2).trans (mU_ne h1)) ⟨z2.1, fun i hi => z2.2 i hi (by omega)⟩
          refine ⟨QM.mk ?_ q9 (FM.in fun b hb => (z3.1 b (by omega) (by omega)).trans (mU_ne (by omega))), rfl⟩
          rw [z1]
          simp (decide := true) [f_act, c10, c20, cp, ct, ck9]
        · refine r_aload_n (pc := 43) X dX8_act_43 rfl ?_
          refine r_iload_n (pc := 44) X dX8_act_44 rfl ?_
          refine r_iload_n (pc := 45) X dX8_act_45 rfl ?_
          refine r_c0_2IW (pc := 46) X rfl dX8_act_46 tc_8_401 mm_X8_tellsAct (kc_80 C) rfl rfl ((m_tA (d + 3) C O.w hp6 hkn ekn).up x S0 R0 (by decide)) (Nat.le_of_ble_eq_true rfl) (fun r46 M46 q46 => ?_)
          refine r_goto (pc := 49) X dX8_act_49 (tgt := 58) (by decide) ?_
          refine r_iret (pc := 58) X dX8_act_58 rfl rfl ?_
          have e9 : runL kn (sV σ 2 p) (nI p) 12 t kn x [] = tA_ kn (sV σ 2 p) (nI p) x [] := by rw [act_eq ht hkn]; exact (if_neg (fun z => c26 (by rw [z]; rfl))).trans (if_pos c40)
          obtain ⟨z1, z2, z3, z4⟩ := q46
          have hl20 := runL_len (v := sV σ 2 p) (i := nI p) (x := x) ht hkn
          rw [← e9] at z1 z2
          have q9 := Q.setBl (M1 := M46) (fun j hj => (z3.2 j hj).trans (by rw [mU_eq]; exact pk_un hj)) (fun b h1 h2 => (z3.1 b h1 h2).trans (mU_ne h1)) ⟨z2.1, fun i hi => z2.2 i hi (by omega)⟩
          refine ⟨QM.mk ?_ q9 (FM.in fun b hb => (z3.1 b (by omega) (by omega)).trans (mU_ne (by omega))), rfl⟩
          rw [z1]
          simp (decide := true) [f_act, c10, c20, cp, ct, ck9]
      · refine r_aload_n (pc := 29) X dX8_act_29 rfl ?_
        refine r_iload_n (pc := 30) X dX8_act_30 rfl ?_
        refine r_iload_n (pc := 31) X dX8_act_31 rfl ?_
        refine r_c0_2IW (pc := 32) X rfl dX8_act_32 tc_8_392 mm_X8_waitsAct (kc_80 C) rfl rfl ((m_wA (d + 6) C O.w hp6 hkn ekn).up x S0 R0 (by decide)) (Nat.le_of_ble_eq_true rfl) (fun r32 M32 q32 => ?_)
        refine r_goto (pc := 35) X dX8_act_35 (tgt := 58) (by decide) ?_
        refine r_iret (pc := 58) X dX8_act_58 rfl rfl ?_
        have e9 : runL kn (sV σ 2 p) (nI p) 12 t kn x [] = wA kn (sV σ 2 p) (nI p) x [] := by rw [act_eq ht hkn]; exact if_pos (show t = 0 from (nI_eq (by omega) (by omega)).mp c26)
        obtain ⟨z1, z2, z3, z4⟩ := q32
        have hl20 := runL_len (v := sV σ 2 p) (i := nI p) (x := x) ht hkn
        rw [← e9] at z1 z2
        have q9 := Q.setBl (M1 := M32) (fun j hj => (z3.2 j hj).trans (by rw [mU_eq]; exact pk_un hj)) (fun b h1 h2 => (z3.1 b h1 h2).trans (mU_ne h1)) ⟨z2.1, fun i hi => z2.2 i hi (by omega)⟩
        refine ⟨QM.mk ?_ q9 (FM.in fun b hb => (z3.1 b (by omega) (by omega)).trans (mU_ne (by omega))), rfl⟩
        rw [z1]
        simp (decide := true) [f_act, c10, c20, cp, ct, ck9]
    · refine r_iconst (pc := 23) (v := (nI 0)) X dX8_act_23 (by decide) ?_
      refine r_iret (pc := 24) X dX8_act_24 rfl rfl ?_
      have q9 := Q.setBl (M1 := mU M 80 (upd (M 80) 68 (nI 0))) (l := []) (fun j hj => by rw [mU_eq]; exact pk_un hj) (fun b h1 h2 => mU_ne h1) ⟨by rw [mU_eq]; exact pk_us, fun i hi => absurd hi (Nat.not_lt_zero _)⟩
      refine ⟨QM.mk ?_ q9 (FM.in fun b hb => mU_ne (by omega)), rfl⟩
      simp (decide := true) [f_act, c10, c20]
