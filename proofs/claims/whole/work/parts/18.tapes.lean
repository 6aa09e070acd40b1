/-! the tapes -/
abbrev LMem : Type := Nat → Nat → Int64
def wl (h : hp_T) (L : LMem) : hp_T := (h.1, h.2.1, h.2.2.1, L, h.2.2.2.2)
def lU (L : LMem) (a : Nat) (f : Nat → Int64) : LMem := fun b => if b = a then f else L b
theorem lU_eq {L : LMem} {a : Nat} {f : Nat → Int64} : lU L a f a = f := if_pos rfl
theorem lU_ne {L : LMem} {a b : Nat} {f : Nat → Int64} (h : b ≠ a) : lU L a f b = L b := if_neg h
section RW18
variable {w : wc_T} {κ : cx_T} {d own nL : Nat} {cc : ByteArray} {rt : Option FieldType} {Φ : Option Value → hp_T → Prop} {pc : Nat} {L : List (Option Value)} {st : List Value} {h : hp_T} {M : Mem} {Lo : LMem}
theorem r_lastL (X : CX w κ d own cc nL rt Φ) {a n j : Nat} {i : Int32} {x : Int64} (dc : decode cc pc = .ok (.lastore, 1)) (hs : ck (wi (wl h Lo) M) a 4 n) (hi : i = nI j) (hj : j < n) (hn : n < 2 ^ 31) (kk : GG w κ (pc + 1) L st (wi (wl h (lU Lo a (vp_updL (Lo a) j x))) M)) : GG w κ pc L (.long x :: .int i :: .ref a :: st) (wi (wl h Lo) M) := r_last X dc hs hi hj hn kk
theorem r_laldL (X : CX w κ d own cc nL rt Φ) {a n j : Nat} {i : Int32} (dc : decode cc pc = .ok (.laload, 1)) (hs : ck (wi (wl h Lo) M) a 4 n) (hi : i = nI j) (hj : j < n) (hn : n < 2 ^ 31) {x : Int64} (hx : Lo a j = x) (kk : GG w κ (pc + 1) L (.long x :: st) (wi (wl h Lo) M)) : GG w κ pc L (.int i :: .ref a :: st) (wi (wl h Lo) M) := r_lald X dc hs hi hj hn hx kk
theorem r_copylL (X : CX w κ (d + 1) own cc nL rt Φ) {idx a b n0 n1 i j k : Nat} {zi zj zk : Int32} (hln : L.length = nL) (dc : decode cc pc = .ok (.invokestatic idx, 3)) (hm : Cond.methodLink (cn own) idx arraycopyName ∈ lw_tbl) (ha : ck (wi (wl h Lo) M) a 4 n0) (hb : ck (wi (wl h Lo) M) b 4 n1) (hi : zi = nI i) (hj : zj = nI j) (hk : zk = nI k) (h0 : i + k ≤ n0 ∧ n0 < 2 ^ 31) (h1 : j + k ≤ n1 ∧ n1 < 2 ^ 31) (hw : (st.map fun v => v.category).sum ≤ 8) (kk : GG w κ (pc + 3) L st (wi (wl h (lU Lo b (va_cpy (Lo a) (Lo b) i j k))) M)) : GG w κ pc L (.int zk :: .int zj :: .ref b :: .int zi :: .ref a :: st) (wi (wl h Lo) M) := r_copyl X hln dc hm ha hb hi hj hk h0 h1 hw kk
end RW18
theorem b2_nd {p : Prop} [Decidable p] : b2 (!decide p) = 0 ↔ p := by
  rw [b2_z]
  simp
def inF (x lo hi : Int32) : Bool := !decide (x < lo) && !decide (hi < x)
theorem inF_of {x : Int32} {b : Nat} (h : inF x (nI 0) (nI b) = true) (hb : b < 2 ^ 31) : ∃ t, t ≤ b ∧ x = nI t := by
  unfold inF at h
  simp at h
  obtain ⟨t, ht, rfl⟩ := nI_of (x := x) (fun z => by have := Int32.lt_iff_toInt_lt.mp z; have := Int32.le_iff_toInt_le.mp h.1; simp [nI_0] at *; omega)
  exact ⟨t, (nI_leI ht hb).mp h.2, rfl⟩
theorem inF_nat {t b : Nat} (ht : t ≤ b) (hb : b < 2 ^ 31) : inF (nI t) (nI 0) (nI b) = true := by
  unfold inF
  rw [decide_eq_false (nI_nlt (Nat.zero_le _) (by omega)), decide_eq_false (nI_nlt ht hb)]
  rfl
/-- sorts, sizes, items -/
abbrev TT : Type := (Nat → Int32) × (Nat → Int32) × (Nat → Nat → Int64)
def WT (T : TT) : Prop := ∀ t, t < 6 → ((T.1 t = -1 ∧ T.2.1 t = nI 0) ∨ ∃ s, s ≤ 4 ∧ T.1 t = nI s) ∧ ∃ n, n ≤ 60 ∧ T.2.1 t = nI n
def Tc (M : Mem) (L : LMem) : TT := (M 71, M 72, fun u i => if u < 6 ∧ i < 60 then L (74 + u) i else 0)
def tmake (T : TT) (t : Nat) (s z : Int32) : TT := (upd T.1 t s, upd T.2.1 t z, fun u i => if u = t then 0 else T.2.2 u i)
def makeF (T : TT) (x s n : Int32) : Int32 × TT :=
  if inF x (nI 0) (nI 5) = true then (if inF s (-1) (nI 4) = true then
    (if s = -1 then (nI 1, tmake T x.toNatClampNeg s (nI 0)) else if nI 60 < n then (-2, T) else if n < 0 then (-14, T) else (nI 1, tmake T x.toNatClampNeg s n)) else (-2, T)) else (-1, T)
def cutF (s : Int32) (v : Int64) : Int64 := if s = nI 0 then v.toInt32.toInt8.toInt32.toInt64 else if s = nI 1 then v.toInt32.toInt16.toInt32.toInt64 else if s = nI 2 then v.toInt32.toInt64 else if s = nI 3 then v else if v = 0 then 0 else 1
def placeF (T : TT) (t : Nat) (i : Int32) : Bool := !decide (i < 0) && !decide (T.2.1 t ≤ i)
def tput (T : TT) (t j : Nat) (v : Int64) : TT := (T.1, T.2.1, fun u i => if u = t ∧ i = j then v else T.2.2 u i)
def putF (T : TT) (x i : Int32) (v : Int64) : Int32 × TT :=
  if inF x (nI 0) (nI 5) = true then (if T.1 x.toNatClampNeg = -1 then (-11, T) else if placeF T x.toNatClampNeg i = true then (nI 1, tput T x.toNatClampNeg i.toNatClampNeg (cutF (T.1 x.toNatClampNeg) v)) else (-13, T)) else (-1, T)
def runF (T : TT) (t : Nat) (i n : Int32) : Bool := !decide (i < 0) && !decide (T.2.1 t - n < i)
def tcopy (T : TT) (t i o j n : Nat) : TT := (T.1, T.2.1, fun u k => if u = o ∧ j ≤ k ∧ k < j + n then T.2.2 t (i + (k - j)) else T.2.2 u k)
def bringF (T : TT) (x i y j n : Int32) : Int32 × TT :=
  if inF x (nI 0) (nI 5) = true ∧ inF y (nI 0) (nI 5) = true then (if T.1 x.toNatClampNeg = -1 ∨ T.1 y.toNatClampNeg = -1 then (-11, T) else if T.1 x.toNatClampNeg = T.1 y.toNatClampNeg then
    (if ¬ n < 0 ∧ runF T x.toNatClampNeg i n = true ∧ runF T y.toNatClampNeg j n = true then (n, tcopy T x.toNatClampNeg i.toNatClampNeg y.toNatClampNeg j.toNatClampNeg n.toNatClampNeg) else (-13, T)) else (-12, T)) else (-1, T)
def pT (M : Mem) (L : LMem) (T1 : TT) (M1 : Mem) (L1 : LMem) : Prop := Tc M1 L1 = T1 ∧ (∀ b, b ≠ 71 → b ≠ 72 → M1 b = M b) ∧ ∀ b, (b < 74 ∨ 79 < b) → L1 b = L b
theorem pT.rf {M : Mem} {L : LMem} : pT M L (Tc M L) M L := ⟨rfl, fun _ _ _ => rfl, fun _ _ => rfl⟩
theorem kc_row {h : hp_T} (C : CS h) {t : Nat} (ht : t ≤ 5) : ck h (74 + t) 4 60 := by
  rcases (show t = 0 ∨ t = 1 ∨ t = 2 ∨ t = 3 ∨ t = 4 ∨ t = 5 by omega) with rfl | rfl | rfl | rfl | rfl | rfl
  · exact kc_74 C
  · exact kc_75 C
  · exact kc_76 C
  · exact kc_77 C
  · exact kc_78 C
  · exact kc_79 C
theorem rc_row {h : hp_T} (C : CS h) {t : Nat} (ht : t ≤ 5) : h_r h 73 t = some (74 + t) := by
  rcases (show t = 0 ∨ t = 1 ∨ t = 2 ∨ t = 3 ∨ t = 4 ∨ t = 5 by omega) with rfl | rfl | rfl | rfl | rfl | rfl
  · exact rc_73_0 C
  · exact rc_73_1 C
  · exact rc_73_2 C
  · exact rc_73_3 C
  · exact rc_73_4 C
  · exact rc_73_5 C
theorem lg_eq0 {x y : Int64} : lg_cmp x y = 0 ↔ x = y := by
  unfold lg_cmp
  constructor
  · intro e
    by_cases c1 : x = y
    · exact c1
    · exfalso
      revert e
      simp only [c1, if_false]
      repeat' split
      all_goals decide
  · intro e
    subst e
    simp

set_option maxRecDepth 10000 in
set_option maxHeartbeats 4000000 in
theorem e_in : ∀ (d : Nat) {h : hp_T} (x lo hi : Int32), Ep d nX7_isWithin [.int x, .int lo, .int hi] h (.int (b2 (inF x lo hi))) := by
  intro d h x lo hi
  refine Ex.of mm_X7_isWithin (Nat.le_of_ble_eq_true rfl) fun w κ X hk hnm => ?_
  refine r_iload_n (pc := 0) X dX7_isWithin_0 rfl ?_
  refine r_iload_n (pc := 1) X dX7_isWithin_1 rfl ?_
  refine r_icmp_lt (pc := 2) X dX7_isWithin_2 (tgt := 14) (by decide) (fun c2 => ?_) (fun c2 => ?_)
  · refine r_iconst (pc := 14) (v := (nI 0)) X dX7_isWithin_14 (by decide) ?_
    refine r_iret (pc := 15) X dX7_isWithin_15 rfl rfl ?_
    exact ⟨⟨by simp [*, inF, b2], rfl⟩, rfl⟩
  · refine r_iload_n (pc := 5) X dX7_isWithin_5 rfl ?_
    refine r_iload_n (pc := 6) X dX7_isWithin_6 rfl ?_
    refine r_icmp_gt (pc := 7) X dX7_isWithin_7 (tgt := 14) (by decide) (fun c7 => ?_) (fun c7 => ?_)
    · refine r_iconst (pc := 14) (v := (nI 0)) X dX7_isWithin_14 (by decide) ?_
      refine r_iret (pc := 15) X dX7_isWithin_15 rfl rfl ?_
      exact ⟨⟨by simp [*, inF, b2], rfl⟩, rfl⟩
    · refine r_iconst (pc := 10) (v := (nI 1)) X dX7_isWithin_10 (by decide) ?_
      refine r_goto (pc := 11) X dX7_isWithin_11 (tgt := 15) (by decide) ?_
      refine r_iret (pc := 15) X dX7_isWithin_15 rfl rfl ?_
      exact ⟨⟨by simp [*, inF, b2], rfl⟩, rfl⟩
set_option maxRecDepth 10000 in
set_option maxHeartbeats 4000000 in
theorem e_digit : ∀ (d : Nat) {h : hp_T} (x : Int32), Ep (d + 1) nX7_isDigit [.int x] h (.int (b2 (inF x (nI 0) (nI 9)))) := by
  intro d h x
  refine Ex.of mm_X7_isDigit (Nat.le_of_ble_eq_true rfl) fun w κ X hk hnm => ?_
  refine r_iload_n (pc := 0) X dX7_isDigit_0 rfl ?_
  refine r_iconst (pc := 1) (v := (nI 0)) X dX7_isDigit_1 (by decide) ?_
  refine r_bipush (pc := 2) (v := (nI 9)) X dX7_isDigit_2 (by decide) ?_
  refine r_c1_3P (pc := 4) X rfl dX7_isDigit_4 tc_7_53 mm_X7_isWithin (e_in d _ _ _) (Nat.le_of_ble_eq_true rfl) ?_
  refine r_iret (pc := 7) X dX7_isDigit_7 rfl (b2_nar _) ?_
  exact ⟨⟨rfl, rfl⟩, rfl⟩
set_option maxRecDepth 10000 in
set_option maxHeartbeats 4000000 in
theorem e_door : ∀ (d : Nat) {h : hp_T} (x : Int32), Ep (d + 1) nX7_isDoor [.int x] h (.int (b2 (inF x (nI 0) (nI 19)))) := by
  intro d h x
  refine Ex.of mm_X7_isDoor (Nat.le_of_ble_eq_true rfl) fun w κ X hk hnm => ?_
  refine r_iload_n (pc := 0) X dX7_isDoor_0 rfl ?_
  refine r_iconst (pc := 1) (v := (nI 0)) X dX7_isDoor_1 (by decide) ?_
  refine r_bipush (pc := 2) (v := (nI 19)) X dX7_isDoor_2 (by decide) ?_
  refine r_c1_3P (pc := 4) X rfl dX7_isDoor_4 tc_7_53 mm_X7_isWithin (e_in d _ _ _) (Nat.le_of_ble_eq_true rfl) ?_
  refine r_iret (pc := 7) X dX7_isDoor_7 rfl (b2_nar _) ?_
  exact ⟨⟨rfl, rfl⟩, rfl⟩
set_option maxRecDepth 10000 in
set_option maxHeartbeats 4000000 in
theorem e_t_has : ∀ (d : Nat) {h : hp_T} (x : Int32), Ep (d + 1) nX6_has [.ref 70, .int x] h (.int (b2 (inF x (nI 0) (nI 5)))) := by
  intro d h x
  refine Ex.of mm_X6_has (Nat.le_of_ble_eq_true rfl) fun w κ X hk hnm => ?_
  refine r_iload_n (pc := 0) X dX6_has_0 rfl ?_
  refine r_iconst (pc := 1) (v := (nI 0)) X dX6_has_1 (by decide) ?_
  refine r_iconst (pc := 2) (v := (nI 5)) X dX6_has_2 (by decide) ?_
  refine r_c4_3P (pc := 3) X rfl dX6_has_3 tc_6_29 mm_X7_isWithin (e_in d _ _ _) (Nat.le_of_ble_eq_true rfl) ?_
  refine r_iret (pc := 6) X dX6_has_6 rfl (b2_nar _) ?_
  exact ⟨⟨rfl, rfl⟩, rfl⟩
set_option maxRecDepth 10000 in
set_option maxHeartbeats 4000000 in
theorem e_t_holds : ∀ (d : Nat) {h : hp_T} {t : Nat} (C : CS h) (ht : t ≤ 5), Ep d nX6_holds [.ref 70, .int (nI t)] h (.int (b2 (!decide ((Tc (h_i h) (h_l h)).1 t = -1)))) := by
  intro d h t C ht
  refine Ex.of mm_X6_holds (Nat.le_of_ble_eq_true rfl) fun w κ X hk hnm => ?_
  refine r_aload_n (pc := 0) X dX6_holds_0 rfl ?_
  refine r_getr (pc := 1) X dX6_holds_1 tf_6_11 rfl (kc_70 C) (rc_70_0 C) ?_
  refine r_iload_n (pc := 4) X dX6_holds_4 rfl ?_
  refine r_iald (pc := 5) X dX6_holds_5 (kc_71 C) rfl (by omega) (by omega) rfl ?_
  refine r_iconst (pc := 6) (v := (-1)) X dX6_holds_6 (by decide) ?_
  refine r_icmp_eq (pc := 7) X dX6_holds_7 (tgt := 14) (by decide) (fun c7 => ?_) (fun c7 => ?_)
  · refine r_iconst (pc := 14) (v := (nI 0)) X dX6_holds_14 (by decide) ?_
    refine r_iret (pc := 15) X dX6_holds_15 rfl rfl ?_
    exact ⟨⟨by simp [*, b2, Tc, b2], rfl⟩, rfl⟩
  · refine r_iconst (pc := 10) (v := (nI 1)) X dX6_holds_10 (by decide) ?_
    refine r_goto (pc := 11) X dX6_holds_11 (tgt := 15) (by decide) ?_
    refine r_iret (pc := 15) X dX6_holds_15 rfl rfl ?_
    exact ⟨⟨by simp [*, b2, Tc, b2], rfl⟩, rfl⟩
set_option maxRecDepth 10000 in
set_option maxHeartbeats 4000000 in
theorem e_t_place : ∀ (d : Nat) {h : hp_T} {t : Nat} (i : Int32) (C : CS h) (ht : t ≤ 5), Ep d nX6_hasPlace [.ref 70, .int (nI t), .int i] h (.int (b2 (placeF (Tc (h_i h) (h_l h)) t i))) := by
  intro d h t i C ht
  refine Ex.of mm_X6_hasPlace (Nat.le_of_ble_eq_true rfl) fun w κ X hk hnm => ?_
  refine r_iload_n (pc := 0) X dX6_hasPlace_0 rfl ?_
  refine r_if_lt (pc := 1) X dX6_hasPlace_1 (tgt := 18) (by decide) (fun c1 => ?_) (fun c1 => ?_)
  · refine r_iconst (pc := 18) (v := (nI 0)) X dX6_hasPlace_18 (by decide) ?_
    refine r_iret (pc := 19) X dX6_hasPlace_19 rfl rfl ?_
    exact ⟨⟨by simp [*, placeF, Tc, b2], rfl⟩, rfl⟩
  · refine r_iload_n (pc := 4) X dX6_hasPlace_4 rfl ?_
    refine r_aload_n (pc := 5) X dX6_hasPlace_5 rfl ?_
    refine r_getr (pc := 6) X dX6_hasPlace_6 tf_6_15 rfl (kc_70 C) (rc_70_1 C) ?_
    refine r_iload_n (pc := 9) X dX6_hasPlace_9 rfl ?_
    refine r_iald (pc := 10) X dX6_hasPlace_10 (kc_72 C) rfl (by omega) (by omega) rfl ?_
    refine r_icmp_ge (pc := 11) X dX6_hasPlace_11 (tgt := 18) (by decide) (fun c11 => ?_) (fun c11 => ?_)
    · refine r_iconst (pc := 18) (v := (nI 0)) X dX6_hasPlace_18 (by decide) ?_
      refine r_iret (pc := 19) X dX6_hasPlace_19 rfl rfl ?_
      exact ⟨⟨by simp [*, placeF, Tc, b2], rfl⟩, rfl⟩
    · refine r_iconst (pc := 14) (v := (nI 1)) X dX6_hasPlace_14 (by decide) ?_
      refine r_goto (pc := 15) X dX6_hasPlace_15 (tgt := 19) (by decide) ?_
      refine r_iret (pc := 19) X dX6_hasPlace_19 rfl rfl ?_
      exact ⟨⟨by simp [*, placeF, Tc, b2], rfl⟩, rfl⟩
set_option maxRecDepth 10000 in
set_option maxHeartbeats 4000000 in
theorem e_t_run : ∀ (d : Nat) {h : hp_T} {t : Nat} (i n : Int32) (C : CS h) (ht : t ≤ 5), Ep d nX6_hasRun [.ref 70, .int (nI t), .int i, .int n] h (.int (b2 (runF (Tc (h_i h) (h_l h)) t i n))) := by
  intro d h t i n C ht
  refine Ex.of mm_X6_hasRun (Nat.le_of_ble_eq_true rfl) fun w κ X hk hnm => ?_
  refine r_iload_n (pc := 0) X dX6_hasRun_0 rfl ?_
  refine r_if_lt (pc := 1) X dX6_hasRun_1 (tgt := 20) (by decide) (fun c1 => ?_) (fun c1 => ?_)
  · refine r_iconst (pc := 20) (v := (nI 0)) X dX6_hasRun_20 (by decide) ?_
    refine r_iret (pc := 21) X dX6_hasRun_21 rfl rfl ?_
    exact ⟨⟨by simp [*, runF, Tc, b2], rfl⟩, rfl⟩
  · refine r_iload_n (pc := 4) X dX6_hasRun_4 rfl ?_
    refine r_aload_n (pc := 5) X dX6_hasRun_5 rfl ?_
    refine r_getr (pc := 6) X dX6_hasRun_6 tf_6_15 rfl (kc_70 C) (rc_70_1 C) ?_
    refine r_iload_n (pc := 9) X dX6_hasRun_9 rfl ?_
    refine r_iald (pc := 10) X dX6_hasRun_10 (kc_72 C) rfl (by omega) (by omega) rfl ?_
    refine r_iload_n (pc := 11) X dX6_hasRun_11 rfl ?_
    refine r_isub (pc := 12) X dX6_hasRun_12 ?_
    refine r_icmp_gt (pc := 13) X dX6_hasRun_13 (tgt := 20) (by decide) (fun c13 => ?_) (fun c13 => ?_)
    · refine r_iconst (pc := 20) (v := (nI 0)) X dX6_hasRun_20 (by decide) ?_
      refine r_iret (pc := 21) X dX6_hasRun_21 rfl rfl ?_
      exact ⟨⟨by simp [*, runF, Tc, b2], rfl⟩, rfl⟩
    · refine r_iconst (pc := 16) (v := (nI 1)) X dX6_hasRun_16 (by decide) ?_
      refine r_goto (pc := 17) X dX6_hasRun_17 (tgt := 21) (by decide) ?_
      refine r_iret (pc := 21) X dX6_hasRun_21 rfl rfl ?_
      exact ⟨⟨by simp [*, runF, Tc, b2], rfl⟩, rfl⟩
set_option maxRecDepth 10000 in
set_option maxHeartbeats 4000000 in
theorem e_t_cut : ∀ (d : Nat) {h : hp_T} (s : Int32) (v : Int64), Ep d nX6_cut [.int s, .long v] h (.long (cutF s v)) := by
  intro d h s v
  refine Ex.of mm_X6_cut (Nat.le_of_ble_eq_true rfl) fun w κ X hk hnm => ?_
  refine r_iload_n (pc := 0) X dX6_cut_0 rfl ?_
  refine sw_X6_cut_1 X (fun z1 => ?_) (fun z1 => ?_) (fun z1 => ?_) (fun z1 => ?_) (fun z1 => ?_)
  · refine r_lload_n (pc := 32) X dX6_cut_32 rfl ?_
    refine r_l2i (pc := 33) X dX6_cut_33 rfl ?_
    refine r_i2b (pc := 34) X dX6_cut_34 rfl ?_
    refine r_i2l (pc := 35) X dX6_cut_35 rfl ?_
    refine r_lret (pc := 36) X dX6_cut_36 rfl ?_
    exact ⟨⟨by simp [*, cutF, nI_eq], rfl⟩, rfl⟩
  · refine r_lload_n (pc := 37) X dX6_cut_37 rfl ?_
    refine r_l2i (pc := 38) X dX6_cut_38 rfl ?_
    refine r_i2s (pc := 39) X dX6_cut_39 rfl ?_
    refine r_i2l (pc := 40) X dX6_cut_40 rfl ?_
    refine r_lret (pc := 41) X dX6_cut_41 rfl ?_
    exact ⟨⟨by simp [*, cutF, nI_eq], rfl⟩, rfl⟩
  · refine r_lload_n (pc := 42) X dX6_cut_42 rfl ?_
    refine r_l2i (pc := 43) X dX6_cut_43 rfl ?_
    refine r_i2l (pc := 44) X dX6_cut_44 rfl ?_
    refine r_lret (pc := 45) X dX6_cut_45 rfl ?_
    exact ⟨⟨by simp [*, cutF, nI_eq], rfl⟩, rfl⟩
  · refine r_lload_n (pc := 46) X dX6_cut_46 rfl ?_
    refine r_lret (pc := 47) X dX6_cut_47 rfl ?_
    exact ⟨⟨by simp [*, cutF, nI_eq], rfl⟩, rfl⟩
  · refine r_lload_n (pc := 48) X dX6_cut_48 rfl ?_
    refine r_lconst (pc := 49) (v := 0) X dX6_cut_49 (by decide) ?_
    refine r_lcmp (pc := 50) X dX6_cut_50 ?_
    refine r_if_eq (pc := 51) X dX6_cut_51 (tgt := 58) (by decide) (fun c51 => ?_) (fun c51 => ?_)
    · refine r_lconst (pc := 58) (v := 0) X dX6_cut_58 (by decide) ?_
      refine r_lret (pc := 59) X dX6_cut_59 rfl ?_
      simp only [lg_eq0] at c51
      exact ⟨⟨by simp [*, cutF], rfl⟩, rfl⟩
    · refine r_lconst (pc := 54) (v := 1) X dX6_cut_54 (by decide) ?_
      refine r_goto (pc := 55) X dX6_cut_55 (tgt := 59) (by decide) ?_
      refine r_lret (pc := 59) X dX6_cut_59 rfl ?_
      simp only [lg_eq0] at c51
      exact ⟨⟨by simp [*, cutF], rfl⟩, rfl⟩
theorem lU_lU {L : LMem} {a : Nat} {f g : Nat → Int64} : lU (lU L a f) a g = lU L a g := by
  funext b
  unfold lU
  by_cases e : b = a
  · rw [if_pos e, if_pos e]
  · rw [if_neg e, if_neg e, if_neg e]
theorem lU_self {L : LMem} {a : Nat} {f : Nat → Int64} (h : f = L a) : lU L a f = L := by
  funext b
  unfold lU
  by_cases e : b = a
  · rw [if_pos e, h, e]
  · rw [if_neg e]
def fillTo (f : Nat → Int64) (k : Nat) (x : Int64) : Nat → Int64 := fun i => if i < k then x else f i
theorem fillTo_s {f : Nat → Int64} {k : Nat} {x : Int64} : vp_updL (fillTo f k x) k x = fillTo f (k + 1) x := by
  funext i
  unfold vp_updL fillTo
  by_cases e : i = k
  · rw [if_pos e, if_pos (by omega)]
  · rw [if_neg e]
    by_cases e2 : i < k
    · rw [if_pos e2, if_pos (by omega)]
    · rw [if_neg e2, if_neg (by omega)]
theorem l_fillL : ∀ (d : Nat) {h : hp_T} {M : Mem} {Lo : LMem} {a N : Nat} {x : Int64} (ha : ck h a 4 N) (hN : N < 2 ^ 31) {w : wc_T} {κ : cx_T} {Φ : Option Value → hp_T → Prop} (X : CX w κ d 13 cJ7_fill_d0a16 5 none Φ) (hΦ : Φ none (wi (wl h (lU Lo a (fillTo (Lo a) N x))) M)), ∀ n k : Nat, k + n = N → GG w κ 6 [some (.ref a), some (.long x), none, some (.int (nI k)), some (.int (nI N))] [] (wi (wl h (lU Lo a (fillTo (Lo a) k x))) M) := by
  intro d h M Lo a N x ha hN w κ Φ X hΦ n
  induction n with
  | zero =>
    intro k hk
    have e : k = N := by omega
    subst e
    refine r_iload_n (pc := 6) X dJ7_fill_d0a16_6 rfl ?_
    refine r_iload (pc := 7) X dJ7_fill_d0a16_7 rfl ?_
    refine r_icmp_geN (pc := 9) X dJ7_fill_d0a16_9 (tgt := 22) (by decide) (by omega) (by omega) (fun c9 => ?_) (fun c9 => ?_)
    · refine r_vret (pc := 22) X dJ7_fill_d0a16_22 rfl ?_
      exact hΦ
    · exact absurd (Nat.le_refl _) c9
  | succ n ih =>
    intro k hk
    have ih := ih (k + 1) (by omega)
    refine r_iload_n (pc := 6) X dJ7_fill_d0a16_6 rfl ?_
    refine r_iload (pc := 7) X dJ7_fill_d0a16_7 rfl ?_
    refine r_icmp_geN (pc := 9) X dJ7_fill_d0a16_9 (tgt := 22) (by decide) (by omega) (by omega) (fun c9 => ?_) (fun c9 => ?_)
    · exact absurd c9 (by omega)
    · refine r_aload_n (pc := 12) X dJ7_fill_d0a16_12 rfl ?_
      refine r_iload_n (pc := 13) X dJ7_fill_d0a16_13 rfl ?_
      refine r_lload_n (pc := 14) X dJ7_fill_d0a16_14 rfl ?_
      refine r_lastL (pc := 15) X dJ7_fill_d0a16_15 ha rfl (by omega) hN ?_
      rw [lU_lU, lU_eq, fillTo_s]
      refine r_iinc (pc := 16) X dJ7_fill_d0a16_16 rfl (by first | exact nI_i1 _ | rfl) ?_
      refine r_goto (pc := 19) X dJ7_fill_d0a16_19 (tgt := 6) (by decide) ?_
      exact ih
set_option maxRecDepth 10000 in
set_option maxHeartbeats 4000000 in
theorem e_fillL : ∀ (d : Nat) {h : hp_T} {M : Mem} {Lo : LMem} {a N : Nat} {x : Int64} (ha : ck h a 4 N) (hN : N < 2 ^ 31), Ex d nJ7_fill_d0a16 [.ref a, .long x] (wi (wl h Lo) M) 0 0 (fun v2 h2 => v2 = none ∧ h2 = wi (wl h (lU Lo a (fillTo (Lo a) N x))) M) := by
  intro d h M Lo a N x ha hN
  refine Ex.of mm_J7_fill_d0a16 (Nat.le_of_ble_eq_true rfl) fun w κ X hk hnm => ?_
  refine r_iconst (pc := 0) (v := (nI 0)) X dJ7_fill_d0a16_0 (by decide) ?_
  refine r_istore_n (pc := 1) X dJ7_fill_d0a16_1 (Nat.le_of_ble_eq_true rfl) ?_
  refine r_aload_n (pc := 2) X dJ7_fill_d0a16_2 rfl ?_
  refine r_alen (pc := 3) X dJ7_fill_d0a16_3 ha (by decide) rfl ?_
  refine r_istore (pc := 4) X dJ7_fill_d0a16_4 (Nat.le_of_ble_eq_true rfl) ?_
  have e := l_fillL d (M := M) (Lo := Lo) (x := x) ha hN X ⟨⟨rfl, rfl⟩, rfl⟩ N 0 (by omega)
  have e0 : lU Lo a (fillTo (Lo a) 0 x) = Lo := lU_self (funext fun i => if_neg (Nat.not_lt_zero i))
  rw [e0] at e
  exact e
theorem pT_make {M : Mem} {L : LMem} {t : Nat} (ht : t ≤ 5) {s z : Int32} : pT M L (tmake (Tc M L) t s z) (mU (mU M 71 (upd (M 71) t s)) 72 (upd (mU M 71 (upd (M 71) t s) 72) t z)) (lU L (74 + t) (fillTo (L (74 + t)) 60 0)) := by
  refine ⟨?_, fun b h1 h2 => by rw [mU_ne h2, mU_ne h1], fun b hb => lU_ne (by omega)⟩
  unfold Tc tmake
  simp (disch := omega) only [mU_ne, mU_eq]
  congr 2
  funext u i
  by_cases hu : u = t
  · subst hu
    rw [lU_eq, if_pos rfl]
    by_cases hi : u < 6 ∧ i < 60
    · rw [if_pos hi]
      exact if_pos hi.2
    · rw [if_neg hi]
  · rw [if_neg hu, lU_ne (by omega)]
set_option maxRecDepth 10000 in
set_option maxHeartbeats 4000000 in
theorem e_t_make : ∀ (d : Nat) (x s n : Int32) {h : hp_T} {M : Mem} {Lo : LMem} (C : CS h), Ex (d + 2) nX6_make [.ref 70, .int x, .int s, .int n] (wi (wl h Lo) M) 0 0 (fun v2 h2 => ∃ (r : Int32) (M1 : Mem) (L1 : LMem), v2 = some (.int r) ∧ h2 = wi (wl h L1) M1 ∧ r = (makeF (Tc M Lo) x s n).1 ∧ pT M Lo (makeF (Tc M Lo) x s n).2 M1 L1) := by
  intro d x s n h M Lo C
  refine Ex.of mm_X6_make (Nat.le_of_ble_eq_true rfl) fun w κ X hk hnm => ?_
  refine r_aload_n (pc := 0) X dX6_make_0 rfl ?_
  refine r_iload_n (pc := 1) X dX6_make_1 rfl ?_
  refine r_c0_1P (pc := 2) X rfl dX6_make_2 tc_6_33 mm_X6_has (kc_70 C) rfl rfl (e_t_has d _) (Nat.le_of_ble_eq_true rfl) ?_
  refine r_if_ne (pc := 5) X dX6_make_5 (tgt := 10) (by decide) (fun c5 => ?_) (fun c5 => ?_)
  · obtain ⟨t, ht, rfl⟩ := inF_of (b2_n.mp c5) (by omega)
    refine r_iload_n (pc := 10) X dX6_make_10 rfl ?_
    refine r_iconst (pc := 11) (v := (-1)) X dX6_make_11 (by decide) ?_
    refine r_iconst (pc := 12) (v := (nI 4)) X dX6_make_12 (by decide) ?_
    refine r_c4_3P (pc := 13) X rfl dX6_make_13 tc_6_29 mm_X7_isWithin (e_in (d + 1) _ _ _) (Nat.le_of_ble_eq_true rfl) ?_
    refine r_if_ne (pc := 16) X dX6_make_16 (tgt := 22) (by decide) (fun c16 => ?_) (fun c16 => ?_)
    · refine r_iload_n (pc := 22) X dX6_make_22 rfl ?_
      refine r_iconst (pc := 23) (v := (-1)) X dX6_make_23 (by decide) ?_
      refine r_icmp_ne (pc := 24) X dX6_make_24 (tgt := 31) (by decide) (fun c24 => ?_) (fun c24 => ?_)
      · refine r_iload_n (pc := 31) X dX6_make_31 rfl ?_
        refine r_istore (pc := 32) X dX6_make_32 (Nat.le_of_ble_eq_true rfl) ?_
        refine r_iload (pc := 34) X dX6_make_34 rfl ?_
        refine r_bipush (pc := 36) (v := (nI 60)) X dX6_make_36 (by decide) ?_
        refine r_icmp_le (pc := 38) X dX6_make_38 (tgt := 44) (by decide) (fun c38 => ?_) (fun c38 => ?_)
        · refine r_iload (pc := 44) X dX6_make_44 rfl ?_
          refine r_if_ge (pc := 46) X dX6_make_46 (tgt := 52) (by decide) (fun c46 => ?_) (fun c46 => ?_)
          · refine r_aload_n (pc := 52) X dX6_make_52 rfl ?_
            refine r_getr (pc := 53) X dX6_make_53 tf_6_11 rfl (kc_70 C) (rc_70_0 C) ?_
            refine r_iload_n (pc := 56) X dX6_make_56 rfl ?_
            refine r_iload_n (pc := 57) X dX6_make_57 rfl ?_
            refine r_iastW (pc := 58) X dX6_make_58 (kc_71 C) rfl (by omega) (by omega) ?_
            refine r_aload_n (pc := 59) X dX6_make_59 rfl ?_
            refine r_getr (pc := 60) X dX6_make_60 tf_6_15 rfl (kc_70 C) (rc_70_1 C) ?_
            refine r_iload_n (pc := 63) X dX6_make_63 rfl ?_
            refine r_iload (pc := 64) X dX6_make_64 rfl ?_
            refine r_iastW (pc := 66) X dX6_make_66 (kc_72 C) rfl (by omega) (by omega) ?_
            refine r_aload_n (pc := 67) X dX6_make_67 rfl ?_
            refine r_getr (pc := 68) X dX6_make_68 tf_6_20 rfl (kc_70 C) (rc_70_2 C) ?_
            refine r_iload_n (pc := 71) X dX6_make_71 rfl ?_
            refine r_aald (pc := 72) X dX6_make_72 (kc_73 C) rfl (by omega) (by omega) (rc_row C ht) (by omega) ?_
            refine r_lconst (pc := 73) (v := 0) X dX6_make_73 (by decide) ?_
            refine r_c1_2G (pc := 74) X rfl dX6_make_74 tc_6_37 mm_J7_fill_d0a16 (e_fillL (d + 1) (h := h) (kc_row C ht) (by omega)) (Nat.le_of_ble_eq_true rfl) (fun v74 g74 q74 => ?_)
            obtain ⟨rfl, rfl⟩ := q74
            refine r_iconst (pc := 77) (v := (nI 1)) X dX6_make_77 (by decide) ?_
            refine r_iret (pc := 78) X dX6_make_78 rfl rfl ?_
            refine ⟨⟨_, _, _, rfl, rfl, ?_, ?_⟩, rfl⟩
            · rw [makeF, if_pos (inF_nat ht (by omega)), if_pos (b2_n.mp c16)]
              first
              | rw [if_pos c24]
              | rw [if_neg c24, if_neg (Int32.not_lt.mpr c38), if_neg (Int32.not_lt.mpr c46)]
            · rw [makeF, if_pos (inF_nat ht (by omega)), if_pos (b2_n.mp c16)]
              first
              | (rw [if_pos c24, nI_clamp (by omega)]; exact pT_make ht)
              | (rw [if_neg c24, if_neg (Int32.not_lt.mpr c38), if_neg (Int32.not_lt.mpr c46), nI_clamp (by omega)]; exact pT_make ht)
          · refine r_bipush (pc := 49) (v := (-14)) X dX6_make_49 (by decide) ?_
            refine r_iret (pc := 51) X dX6_make_51 rfl rfl ?_
            first
              | exact absurd c38 (by decide)
              | exact absurd c46 (by decide)
              | (refine ⟨⟨_, M, Lo, rfl, rfl, ?_, ?_⟩, rfl⟩
                 all_goals rw [makeF, if_pos (inF_nat ht (by omega)), if_pos (b2_n.mp c16), if_neg c24]
                 all_goals first
                   | rw [if_pos (Int32.not_le.mp c38)]
                   | rw [if_neg (Int32.not_lt.mpr c38), if_pos (Int32.not_le.mp c46)]
                 all_goals first
                   | rfl
                   | exact pT.rf)
        · refine r_bipush (pc := 41) (v := (-2)) X dX6_make_41 (by decide) ?_
          refine r_iret (pc := 43) X dX6_make_43 rfl rfl ?_
          first
            | exact absurd c38 (by decide)
            | exact absurd c46 (by decide)
            | (refine ⟨⟨_, M, Lo, rfl, rfl, ?_, ?_⟩, rfl⟩
               all_goals rw [makeF, if_pos (inF_nat ht (by omega)), if_pos (b2_n.mp c16), if_neg c24]
               all_goals first
                 | rw [if_pos (Int32.not_le.mp c38)]
                 | rw [if_neg (Int32.not_lt.mpr c38), if_pos (Int32.not_le.mp c46)]
               all_goals first
                 | rfl
                 | exact pT.rf)
      · refine r_iconst (pc := 27) (v := (nI 0)) X dX6_make_27 (by decide) ?_
        refine r_goto (pc := 28) X dX6_make_28 (tgt := 32) (by decide) ?_
        refine r_istore (pc := 32) X dX6_make_32 (Nat.le_of_ble_eq_true rfl) ?_
        refine r_iload (pc := 34) X dX6_make_34 rfl ?_
        refine r_bipush (pc := 36) (v := (nI 60)) X dX6_make_36 (by decide) ?_
        refine r_icmp_le (pc := 38) X dX6_make_38 (tgt := 44) (by decide) (fun c38 => ?_) (fun c38 => ?_)
        · refine r_iload (pc := 44) X dX6_make_44 rfl ?_
          refine r_if_ge (pc := 46) X dX6_make_46 (tgt := 52) (by decide) (fun c46 => ?_) (fun c46 => ?_)
          · refine r_aload_n (pc := 52) X dX6_make_52 rfl ?_
            refine r_getr (pc := 53) X dX6_make_53 tf_6_11 rfl (kc_70 C) (rc_70_0 C) ?_
            refine r_iload_n (pc := 56) X dX6_make_56 rfl ?_
            refine r_iload_n (pc := 57) X dX6_make_57 rfl ?_
            refine r_iastW (pc := 58) X dX6_make_58 (kc_71 C) rfl (by omega) (by omega) ?_
            refine r_aload_n (pc := 59) X dX6_make_59 rfl ?_
            refine r_getr (pc := 60) X dX6_make_60 tf_6_15 rfl (kc_70 C) (rc_70_1 C) ?_
            refine r_iload_n (pc := 63) X dX6_make_63 rfl ?_
            refine r_iload (pc := 64) X dX6_make_64 rfl ?_
            refine r_iastW (pc := 66) X dX6_make_66 (kc_72 C) rfl (by omega) (by omega) ?_
            refine r_aload_n (pc := 67) X dX6_make_67 rfl ?_
            refine r_getr (pc := 68) X dX6_make_68 tf_6_20 rfl (kc_70 C) (rc_70_2 C) ?_
            refine r_iload_n (pc := 71) X dX6_make_71 rfl ?_
            refine r_aald (pc := 72) X dX6_make_72 (kc_73 C) rfl (by omega) (by omega) (rc_row C ht) (by omega) ?_
            refine r_lconst (pc := 73) (v := 0) X dX6_make_73 (by decide) ?_
            refine r_c1_2G (pc := 74) X rfl dX6_make_74 tc_6_37 mm_J7_fill_d0a16 (e_fillL (d + 1) (h := h) (kc_row C ht) (by omega)) (Nat.le_of_ble_eq_true rfl) (fun v74 g74 q74 => ?_)
            obtain ⟨rfl, rfl⟩ := q74
            refine r_iconst (pc := 77) (v := (nI 1)) X dX6_make_77 (by decide) ?_
            refine r_iret (pc := 78) X dX6_make_78 rfl rfl ?_
            refine ⟨⟨_, _, _, rfl, rfl, ?_, ?_⟩, rfl⟩
            · rw [makeF, if_pos (inF_nat ht (by omega)), if_pos (b2_n.mp c16)]
              first
              | rw [if_pos c24]
              | rw [if_neg c24, if_neg (Int32.not_lt.mpr c38), if_neg (Int32.not_lt.mpr c46)]
            · rw [makeF, if_pos (inF_nat ht (by omega)), if_pos (b2_n.mp c16)]
              first
              | (rw [if_pos c24, nI_clamp (by omega)]; exact pT_make ht)
              | (rw [if_neg c24, if_neg (Int32.not_lt.mpr c38), if_neg (Int32.not_lt.mpr c46), nI_clamp (by omega)]; exact pT_make ht)
          · refine r_bipush (pc := 49) (v := (-14)) X dX6_make_49 (by decide) ?_
            refine r_iret (pc := 51) X dX6_make_51 rfl rfl ?_
            first
              | exact absurd c38 (by decide)
              | exact absurd c46 (by decide)
              | (refine ⟨⟨_, M, Lo, rfl, rfl, ?_, ?_⟩, rfl⟩
                 all_goals rw [makeF, if_pos (inF_nat ht (by omega)), if_pos (b2_n.mp c16), if_neg c24]
                 all_goals first
                   | rw [if_pos (Int32.not_le.mp c38)]
                   | rw [if_neg (Int32.not_lt.mpr c38), if_pos (Int32.not_le.mp c46)]
                 all_goals first
                   | rfl
                   | exact pT.rf)
        · refine r_bipush (pc := 41) (v := (-2)) X dX6_make_41 (by decide) ?_
          refine r_iret (pc := 43) X dX6_make_43 rfl rfl ?_
          first
            | exact absurd c38 (by decide)
            | exact absurd c46 (by decide)
            | (refine ⟨⟨_, M, Lo, rfl, rfl, ?_, ?_⟩, rfl⟩
               all_goals rw [makeF, if_pos (inF_nat ht (by omega)), if_pos (b2_n.mp c16), if_neg c24]
               all_goals first
                 | rw [if_pos (Int32.not_le.mp c38)]
                 | rw [if_neg (Int32.not_lt.mpr c38), if_pos (Int32.not_le.mp c46)]
               all_goals first
                 | rfl
                 | exact pT.rf)
    · refine r_bipush (pc := 19) (v := (-2)) X dX6_make_19 (by decide) ?_
      refine r_iret (pc := 21) X dX6_make_21 rfl rfl ?_
      refine ⟨⟨_, M, Lo, rfl, rfl, ?_, ?_⟩, rfl⟩
      · rw [makeF, if_pos (inF_nat ht (by omega)), if_neg (fun z => absurd z (by rw [b2_z.mp c16]; decide))]
      · rw [makeF, if_pos (inF_nat ht (by omega)), if_neg (fun z => absurd z (by rw [b2_z.mp c16]; decide))]
        exact pT.rf
  · refine r_iconst (pc := 8) (v := (-1)) X dX6_make_8 (by decide) ?_
    refine r_iret (pc := 9) X dX6_make_9 rfl rfl ?_
    exact ⟨⟨_, M, Lo, rfl, rfl, by rw [makeF, if_neg (fun z => absurd z (by rw [b2_z.mp c5]; decide))], by rw [makeF, if_neg (fun z => absurd z (by rw [b2_z.mp c5]; decide))]; exact pT.rf⟩, rfl⟩
theorem place_nat {T : TT} {t : Nat} (hT : WT T) (ht : t ≤ 5) {i : Int32} (h : placeF T t i = true) : ∃ j, j < 60 ∧ i = nI j := by
  unfold placeF at h
  simp at h
  obtain ⟨n, hn, e⟩ := (hT t (by omega)).2
  obtain ⟨j, hj, rfl⟩ := nI_of (x := i) (fun z => by have := Int32.lt_iff_toInt_lt.mp z; have := Int32.le_iff_toInt_le.mp h.1; simp at *; omega)
  rw [e] at h
  have := (nI_ltI hj (by omega)).mp h.2
  exact ⟨j, by omega, rfl⟩
theorem pT_put {M : Mem} {L : LMem} {t j : Nat} (ht : t ≤ 5) (hj : j < 60) {v : Int64} : pT M L (tput (Tc M L) t j v) M (lU L (74 + t) (vp_updL (L (74 + t)) j v)) := by
  refine ⟨?_, fun b h1 h2 => rfl, fun b hb => lU_ne (by omega)⟩
  unfold Tc tput
  congr 2
  funext u i
  show (if u < 6 ∧ i < 60 then lU L (74 + t) (vp_updL (L (74 + t)) j v) (74 + u) i else 0) = if u = t ∧ i = j then v else if u < 6 ∧ i < 60 then L (74 + u) i else 0
  by_cases hu : u = t
  · subst hu
    rw [lU_eq]
    by_cases hi : u < 6 ∧ i < 60
    · rw [if_pos hi, if_pos hi]
      unfold vp_updL
      by_cases e : i = j
      · rw [if_pos e, if_pos ⟨rfl, e⟩]
      · rw [if_neg e, if_neg (fun z => e z.2)]
    · rw [if_neg hi, if_neg (c := u = u ∧ i = j) (fun z => hi ⟨by omega, by omega⟩), if_neg hi]
  · rw [if_neg (c := u = t ∧ i = j) (fun z => hu z.1), lU_ne (by omega)]
theorem runF_nat {T : TT} {t : Nat} (hT : WT T) (ht : t ≤ 5) {i n : Int32} (hn : ¬ n < 0) (h : runF T t i n = true) : ∃ j k, n = nI k ∧ i = nI j ∧ j + k ≤ 60 := by
  unfold runF at h
  simp at h
  obtain ⟨m, hm, e⟩ := (hT t (by omega)).2
  obtain ⟨k, hk, rfl⟩ := nI_of hn
  obtain ⟨j, hj, rfl⟩ := nI_of (x := i) (fun z => by have := Int32.lt_iff_toInt_lt.mp z; have := Int32.le_iff_toInt_le.mp h.1; simp at *; omega)
  rw [e] at h
  refine ⟨j, k, rfl, rfl, ?_⟩
  have h2 := Int32.le_iff_toInt_le.mp h.2
  rw [nI_toInt hj, Int32.toInt_sub, nI_toInt (n := m) (by omega), nI_toInt hk] at h2
  rw [Int.bmod_def] at h2
  split at h2 <;> omega
theorem pT_copy {M : Mem} {L : LMem} {t i o j n : Nat} (ht : t ≤ 5) (ho : o ≤ 5) (hi : i + n ≤ 60) (hj : j + n ≤ 60) : pT M L (tcopy (Tc M L) t i o j n) M (lU L (74 + o) (va_cpy (L (74 + t)) (L (74 + o)) i j n)) := by
  refine ⟨?_, fun b h1 h2 => rfl, fun b hb => lU_ne (by omega)⟩
  unfold Tc tcopy
  congr 2
  funext u k
  show (if u < 6 ∧ k < 60 then lU L (74 + o) (va_cpy (L (74 + t)) (L (74 + o)) i j n) (74 + u) k else 0) = if u = o ∧ j ≤ k ∧ k < j + n then (if t < 6 ∧ i + (k - j) < 60 then L (74 + t) (i + (k - j)) else 0) else if u < 6 ∧ k < 60 then L (74 + u) k else 0
  by_cases hu : u = o
  · subst hu
    rw [lU_eq]
    unfold va_cpy
    by_cases hk : u < 6 ∧ k < 60
    · rw [if_pos hk, if_pos hk]
      by_cases e : j ≤ k ∧ k < j + n
      · rw [if_pos e, if_pos ⟨rfl, e⟩, if_pos ⟨by omega, by omega⟩]
      · rw [if_neg e, if_neg (fun z => e z.2)]
    · rw [if_neg hk, if_neg (c := u = u ∧ j ≤ k ∧ k < j + n) (fun z => hk ⟨by omega, by omega⟩), if_neg hk]
  · rw [if_neg (c := u = o ∧ j ≤ k ∧ k < j + n) (fun z => hu z.1), lU_ne (by omega)]
set_option maxRecDepth 10000 in
set_option maxHeartbeats 4000000 in
theorem e_t_put : ∀ (d : Nat) (x i : Int32) (v : Int64) {h : hp_T} {M : Mem} {Lo : LMem} (C : CS h) (hT : WT (Tc M Lo)), Ex (d + 2) nX6_put [.ref 70, .int x, .int i, .long v] (wi (wl h Lo) M) 0 0 (fun v2 h2 => ∃ (r : Int32) (M1 : Mem) (L1 : LMem), v2 = some (.int r) ∧ h2 = wi (wl h L1) M1 ∧ r = (putF (Tc M Lo) x i v).1 ∧ pT M Lo (putF (Tc M Lo) x i v).2 M1 L1) := by
  intro d x i v h M Lo C hT
  refine Ex.of mm_X6_put (Nat.le_of_ble_eq_true rfl) fun w κ X hk hnm => ?_
  refine r_aload_n (pc := 0) X dX6_put_0 rfl ?_
  refine r_iload_n (pc := 1) X dX6_put_1 rfl ?_
  refine r_c0_1P (pc := 2) X rfl dX6_put_2 tc_6_33 mm_X6_has (kc_70 C) rfl rfl (e_t_has (d + 0) _) (Nat.le_of_ble_eq_true rfl) ?_
  refine r_if_ne (pc := 5) X dX6_put_5 (tgt := 10) (by decide) (fun c5 => ?_) (fun c5 => ?_)
  · obtain ⟨t, ht, rfl⟩ := inF_of (b2_n.mp c5) (by omega)
    refine r_aload_n (pc := 10) X dX6_put_10 rfl ?_
    refine r_iload_n (pc := 11) X dX6_put_11 rfl ?_
    refine r_c0_1P (pc := 12) X rfl dX6_put_12 tc_6_40 mm_X6_holds (kc_70 C) rfl rfl (e_t_holds (d + 1) (h := wi (wl h Lo) M) C ht) (Nat.le_of_ble_eq_true rfl) ?_
    refine r_if_ne (pc := 15) X dX6_put_15 (tgt := 21) (by decide) (fun c15 => ?_) (fun c15 => ?_)
    · refine r_aload_n (pc := 21) X dX6_put_21 rfl ?_
      refine r_iload_n (pc := 22) X dX6_put_22 rfl ?_
      refine r_iload_n (pc := 23) X dX6_put_23 rfl ?_
      refine r_c0_2P (pc := 24) X rfl dX6_put_24 tc_6_43 mm_X6_hasPlace (kc_70 C) rfl rfl (e_t_place (d + 1) (h := wi (wl h Lo) M) i C ht) (Nat.le_of_ble_eq_true rfl) ?_
      refine r_if_ne (pc := 27) X dX6_put_27 (tgt := 33) (by decide) (fun c27 => ?_) (fun c27 => ?_)
      · have c27b := b2_n.mp c27
        obtain ⟨j, hj, rfl⟩ := place_nat hT ht c27b
        refine r_aload_n (pc := 33) X dX6_put_33 rfl ?_
        refine r_getr (pc := 34) X dX6_put_34 tf_6_20 rfl (kc_70 C) (rc_70_2 C) ?_
        refine r_iload_n (pc := 37) X dX6_put_37 rfl ?_
        refine r_aald (pc := 38) X dX6_put_38 (kc_73 C) rfl (by omega) (by omega) (rc_row C ht) (by omega) ?_
        refine r_iload_n (pc := 39) X dX6_put_39 rfl ?_
        refine r_aload_n (pc := 40) X dX6_put_40 rfl ?_
        refine r_getr (pc := 41) X dX6_put_41 tf_6_11 rfl (kc_70 C) (rc_70_0 C) ?_
        refine r_iload_n (pc := 44) X dX6_put_44 rfl ?_
        refine r_ialdW (pc := 45) X dX6_put_45 (kc_71 C) rfl (by omega) (by omega) rfl ?_
        refine r_lload_n (pc := 46) X dX6_put_46 rfl ?_
        refine r_c1_2P (pc := 47) X rfl dX6_put_47 tc_6_47 mm_X6_cut (e_t_cut (d + 1) _ _) (Nat.le_of_ble_eq_true rfl) ?_
        refine r_lastL (pc := 50) X dX6_put_50 (kc_row C ht) rfl (by omega) (by omega) ?_
        refine r_iconst (pc := 51) (v := (nI 1)) X dX6_put_51 (by decide) ?_
        refine r_iret (pc := 52) X dX6_put_52 rfl rfl ?_
        refine ⟨⟨_, _, _, rfl, rfl, ?_, ?_⟩, rfl⟩
        all_goals rw [putF, if_pos (inF_nat ht (by omega)), if_neg (show ¬ (Tc M Lo).1 (nI t).toNatClampNeg = -1 by rw [nI_clamp (by omega)]; exact fun z => c15 (b2_nd.mpr z)), if_pos (by rw [nI_clamp (by omega)]; exact c27b)]
        rw [nI_clamp (by omega), nI_clamp (by omega)]
        exact pT_put ht hj
      · refine r_bipush (pc := 30) (v := (-13)) X dX6_put_30 (by decide) ?_
        refine r_iret (pc := 32) X dX6_put_32 rfl rfl ?_
        refine ⟨⟨_, M, Lo, rfl, rfl, ?_, ?_⟩, rfl⟩
        · rw [putF, if_pos (inF_nat ht (by omega)), if_neg (show ¬ (Tc M Lo).1 (nI t).toNatClampNeg = -1 by rw [nI_clamp (by omega)]; exact fun z => c15 (b2_nd.mpr z)), if_neg (fun z => absurd z (by rw [nI_clamp (by omega)]; show ¬ placeF (Tc M Lo) t i = true; rw [show placeF (Tc M Lo) t i = false from b2_z.mp c27]; decide))]
        · rw [putF, if_pos (inF_nat ht (by omega)), if_neg (show ¬ (Tc M Lo).1 (nI t).toNatClampNeg = -1 by rw [nI_clamp (by omega)]; exact fun z => c15 (b2_nd.mpr z)), if_neg (fun z => absurd z (by rw [nI_clamp (by omega)]; show ¬ placeF (Tc M Lo) t i = true; rw [show placeF (Tc M Lo) t i = false from b2_z.mp c27]; decide))]
          exact pT.rf
    · refine r_bipush (pc := 18) (v := (-11)) X dX6_put_18 (by decide) ?_
      refine r_iret (pc := 20) X dX6_put_20 rfl rfl ?_
      refine ⟨⟨_, M, Lo, rfl, rfl, ?_, ?_⟩, rfl⟩
      · rw [putF, if_pos (inF_nat ht (by omega)), if_pos (show (Tc M Lo).1 (nI t).toNatClampNeg = -1 by rw [nI_clamp (by omega)]; exact b2_nd.mp c15)]
      · rw [putF, if_pos (inF_nat ht (by omega)), if_pos (show (Tc M Lo).1 (nI t).toNatClampNeg = -1 by rw [nI_clamp (by omega)]; exact b2_nd.mp c15)]
        exact pT.rf
  · refine r_iconst (pc := 8) (v := (-1)) X dX6_put_8 (by decide) ?_
    refine r_iret (pc := 9) X dX6_put_9 rfl rfl ?_
    refine ⟨⟨_, M, Lo, rfl, rfl, ?_, ?_⟩, rfl⟩
    · rw [putF, if_neg (fun z => absurd z (by rw [b2_z.mp c5]; decide))]
    · rw [putF, if_neg (fun z => absurd z (by rw [b2_z.mp c5]; decide))]
      exact pT.rf
theorem tk_1 {M : Mem} {L : LMem} {t : Nat} (ht : t ≤ 5) (h : b2 (!decide ((Tc M L).1 t = -1)) = 0) : (Tc M L).1 (nI t).toNatClampNeg = -1 := by
  rw [nI_clamp (by omega)]
  exact b2_nd.mp h
theorem tk_0 {M : Mem} {L : LMem} {t : Nat} (ht : t ≤ 5) (h : ¬ b2 (!decide ((Tc M L).1 t = -1)) = 0) : ¬ (Tc M L).1 (nI t).toNatClampNeg = -1 := by
  rw [nI_clamp (by omega)]
  exact fun z => h (b2_nd.mpr z)
set_option maxRecDepth 10000 in
set_option maxHeartbeats 4000000 in
theorem e_t_bring : ∀ (d : Nat) (x i y j n : Int32) {h : hp_T} {M : Mem} {Lo : LMem} (C : CS h) (hT : WT (Tc M Lo)), Ex (d + 2) nX6_bring [.ref 70, .int x, .int i, .int y, .int j, .int n] (wi (wl h Lo) M) 0 0 (fun v2 h2 => ∃ (r : Int32) (M1 : Mem) (L1 : LMem), v2 = some (.int r) ∧ h2 = wi (wl h L1) M1 ∧ r = (bringF (Tc M Lo) x i y j n).1 ∧ pT M Lo (bringF (Tc M Lo) x i y j n).2 M1 L1) := by
  intro d x i y j n h M Lo C hT
  refine Ex.of mm_X6_bring (Nat.le_of_ble_eq_true rfl) fun w κ X hk hnm => ?_
  refine r_aload_n (pc := 0) X dX6_bring_0 rfl ?_
  refine r_iload_n (pc := 1) X dX6_bring_1 rfl ?_
  refine r_c0_1P (pc := 2) X rfl dX6_bring_2 tc_6_33 mm_X6_has (kc_70 C) rfl rfl (e_t_has (d + 0) _) (Nat.le_of_ble_eq_true rfl) ?_
  refine r_if_eq (pc := 5) X dX6_bring_5 (tgt := 16) (by decide) (fun c5 => ?_) (fun c5 => ?_)
  · refine r_iconst (pc := 16) (v := (-1)) X dX6_bring_16 (by decide) ?_
    refine r_iret (pc := 17) X dX6_bring_17 rfl rfl ?_
    first
      | (refine ⟨⟨_, M, Lo, rfl, rfl, ?_, ?_⟩, rfl⟩
         · rw [bringF, if_neg (fun z => absurd z.1 (by rw [b2_z.mp c5]; decide))]
         · rw [bringF, if_neg (fun z => absurd z.1 (by rw [b2_z.mp c5]; decide))]
           exact pT.rf)
      | (refine ⟨⟨_, M, Lo, rfl, rfl, ?_, ?_⟩, rfl⟩
         · rw [bringF, if_neg (fun z => absurd z.2 (by rw [b2_z.mp c13]; decide))]
         · rw [bringF, if_neg (fun z => absurd z.2 (by rw [b2_z.mp c13]; decide))]
           exact pT.rf)
  · refine r_aload_n (pc := 8) X dX6_bring_8 rfl ?_
    refine r_iload_n (pc := 9) X dX6_bring_9 rfl ?_
    refine r_c0_1P (pc := 10) X rfl dX6_bring_10 tc_6_33 mm_X6_has (kc_70 C) rfl rfl (e_t_has (d + 0) _) (Nat.le_of_ble_eq_true rfl) ?_
    refine r_if_ne (pc := 13) X dX6_bring_13 (tgt := 18) (by decide) (fun c13 => ?_) (fun c13 => ?_)
    · obtain ⟨t, ht, rfl⟩ := inF_of (b2_n.mp c5) (by omega)
      obtain ⟨o, ho, rfl⟩ := inF_of (b2_n.mp c13) (by omega)
      refine r_aload_n (pc := 18) X dX6_bring_18 rfl ?_
      refine r_iload_n (pc := 19) X dX6_bring_19 rfl ?_
      refine r_c0_1P (pc := 20) X rfl dX6_bring_20 tc_6_40 mm_X6_holds (kc_70 C) rfl rfl (e_t_holds (d + 1) (h := wi (wl h Lo) M) C ht) (Nat.le_of_ble_eq_true rfl) ?_
      refine r_if_eq (pc := 23) X dX6_bring_23 (tgt := 34) (by decide) (fun c23 => ?_) (fun c23 => ?_)
      · refine r_bipush (pc := 34) (v := (-11)) X dX6_bring_34 (by decide) ?_
        refine r_iret (pc := 36) X dX6_bring_36 rfl rfl ?_
        first
          | (refine ⟨⟨_, M, Lo, rfl, rfl, ?_, ?_⟩, rfl⟩
             · rw [bringF, if_pos ⟨inF_nat ht (by omega), inF_nat ho (by omega)⟩, if_pos (Or.inl (tk_1 (M := M) (L := Lo) ht c23))]
             · rw [bringF, if_pos ⟨inF_nat ht (by omega), inF_nat ho (by omega)⟩, if_pos (Or.inl (tk_1 (M := M) (L := Lo) ht c23))]
               exact pT.rf)
          | (refine ⟨⟨_, M, Lo, rfl, rfl, ?_, ?_⟩, rfl⟩
             · rw [bringF, if_pos ⟨inF_nat ht (by omega), inF_nat ho (by omega)⟩, if_pos (Or.inr (tk_1 (M := M) (L := Lo) ho c31))]
             · rw [bringF, if_pos ⟨inF_nat ht (by omega), inF_nat ho (by omega)⟩, if_pos (Or.inr (tk_1 (M := M) (L := Lo) ho c31))]
               exact pT.rf)
      · refine r_aload_n (pc := 26) X dX6_bring_26 rfl ?_
        refine r_iload_n (pc := 27) X dX6_bring_27 rfl ?_
        refine r_c0_1P (pc := 28) X rfl dX6_bring_28 tc_6_40 mm_X6_holds (kc_70 C) rfl rfl (e_t_holds (d + 1) (h := wi (wl h Lo) M) C ho) (Nat.le_of_ble_eq_true rfl) ?_
        refine r_if_ne (pc := 31) X dX6_bring_31 (tgt := 37) (by decide) (fun c31 => ?_) (fun c31 => ?_)
        · refine r_aload_n (pc := 37) X dX6_bring_37 rfl ?_
          refine r_getr (pc := 38) X dX6_bring_38 tf_6_11 rfl (kc_70 C) (rc_70_0 C) ?_
          refine r_iload_n (pc := 41) X dX6_bring_41 rfl ?_
          refine r_ialdW (pc := 42) X dX6_bring_42 (kc_71 C) rfl (by omega) (by omega) rfl ?_
          refine r_aload_n (pc := 43) X dX6_bring_43 rfl ?_
          refine r_getr (pc := 44) X dX6_bring_44 tf_6_11 rfl (kc_70 C) (rc_70_0 C) ?_
          refine r_iload_n (pc := 47) X dX6_bring_47 rfl ?_
          refine r_ialdW (pc := 48) X dX6_bring_48 (kc_71 C) rfl (by omega) (by omega) rfl ?_
          refine r_icmp_eq (pc := 49) X dX6_bring_49 (tgt := 55) (by decide) (fun c49 => ?_) (fun c49 => ?_)
          · refine r_iload (pc := 55) X dX6_bring_55 rfl ?_
            refine r_if_lt (pc := 57) X dX6_bring_57 (tgt := 83) (by decide) (fun c57 => ?_) (fun c57 => ?_)
            · refine r_bipush (pc := 83) (v := (-13)) X dX6_bring_83 (by decide) ?_
              refine r_iret (pc := 85) X dX6_bring_85 rfl rfl ?_
              refine ⟨⟨_, M, Lo, rfl, rfl, ?_, ?_⟩, rfl⟩
              · rw [bringF, if_pos ⟨inF_nat ht (by omega), inF_nat ho (by omega)⟩, if_neg (not_or.mpr ⟨tk_0 (M := M) (L := Lo) ht c23, tk_0 (M := M) (L := Lo) ho c31⟩), if_pos (show (Tc M Lo).1 (nI t).toNatClampNeg = (Tc M Lo).1 (nI o).toNatClampNeg by rw [nI_clamp (by omega), nI_clamp (by omega)]; exact c49), if_neg (c := _ ∧ _) (fun z => by rw [nI_clamp (n := t) (by omega), nI_clamp (n := o) (by omega)] at z; first | exact z.1 c57 | (have := b2_z.mp c68; exact absurd (z.2.1.symm.trans this) (by decide)) | (have := b2_z.mp c80; exact absurd (z.2.2.symm.trans this) (by decide)))]
              · rw [bringF, if_pos ⟨inF_nat ht (by omega), inF_nat ho (by omega)⟩, if_neg (not_or.mpr ⟨tk_0 (M := M) (L := Lo) ht c23, tk_0 (M := M) (L := Lo) ho c31⟩), if_pos (show (Tc M Lo).1 (nI t).toNatClampNeg = (Tc M Lo).1 (nI o).toNatClampNeg by rw [nI_clamp (by omega), nI_clamp (by omega)]; exact c49), if_neg (c := _ ∧ _) (fun z => by rw [nI_clamp (n := t) (by omega), nI_clamp (n := o) (by omega)] at z; first | exact z.1 c57 | (have := b2_z.mp c68; exact absurd (z.2.1.symm.trans this) (by decide)) | (have := b2_z.mp c80; exact absurd (z.2.2.symm.trans this) (by decide)))]
                exact pT.rf
            · refine r_aload_n (pc := 60) X dX6_bring_60 rfl ?_
              refine r_iload_n (pc := 61) X dX6_bring_61 rfl ?_
              refine r_iload_n (pc := 62) X dX6_bring_62 rfl ?_
              refine r_iload (pc := 63) X dX6_bring_63 rfl ?_
              refine r_c0_3P (pc := 65) X rfl dX6_bring_65 tc_6_51 mm_X6_hasRun (kc_70 C) rfl rfl (e_t_run (d + 1) (h := wi (wl h Lo) M) i n C ht) (Nat.le_of_ble_eq_true rfl) ?_
              refine r_if_eq (pc := 68) X dX6_bring_68 (tgt := 83) (by decide) (fun c68 => ?_) (fun c68 => ?_)
              · refine r_bipush (pc := 83) (v := (-13)) X dX6_bring_83 (by decide) ?_
                refine r_iret (pc := 85) X dX6_bring_85 rfl rfl ?_
                refine ⟨⟨_, M, Lo, rfl, rfl, ?_, ?_⟩, rfl⟩
                · rw [bringF, if_pos ⟨inF_nat ht (by omega), inF_nat ho (by omega)⟩, if_neg (not_or.mpr ⟨tk_0 (M := M) (L := Lo) ht c23, tk_0 (M := M) (L := Lo) ho c31⟩), if_pos (show (Tc M Lo).1 (nI t).toNatClampNeg = (Tc M Lo).1 (nI o).toNatClampNeg by rw [nI_clamp (by omega), nI_clamp (by omega)]; exact c49), if_neg (c := _ ∧ _) (fun z => by rw [nI_clamp (n := t) (by omega), nI_clamp (n := o) (by omega)] at z; first | exact z.1 c57 | (have := b2_z.mp c68; exact absurd (z.2.1.symm.trans this) (by decide)) | (have := b2_z.mp c80; exact absurd (z.2.2.symm.trans this) (by decide)))]
                · rw [bringF, if_pos ⟨inF_nat ht (by omega), inF_nat ho (by omega)⟩, if_neg (not_or.mpr ⟨tk_0 (M := M) (L := Lo) ht c23, tk_0 (M := M) (L := Lo) ho c31⟩), if_pos (show (Tc M Lo).1 (nI t).toNatClampNeg = (Tc M Lo).1 (nI o).toNatClampNeg by rw [nI_clamp (by omega), nI_clamp (by omega)]; exact c49), if_neg (c := _ ∧ _) (fun z => by rw [nI_clamp (n := t) (by omega), nI_clamp (n := o) (by omega)] at z; first | exact z.1 c57 | (have := b2_z.mp c68; exact absurd (z.2.1.symm.trans this) (by decide)) | (have := b2_z.mp c80; exact absurd (z.2.2.symm.trans this) (by decide)))]
                  exact pT.rf
              · refine r_aload_n (pc := 71) X dX6_bring_71 rfl ?_
                refine r_iload_n (pc := 72) X dX6_bring_72 rfl ?_
                refine r_iload (pc := 73) X dX6_bring_73 rfl ?_
                refine r_iload (pc := 75) X dX6_bring_75 rfl ?_
                refine r_c0_3P (pc := 77) X rfl dX6_bring_77 tc_6_51 mm_X6_hasRun (kc_70 C) rfl rfl (e_t_run (d + 1) (h := wi (wl h Lo) M) j n C ho) (Nat.le_of_ble_eq_true rfl) ?_
                refine r_if_ne (pc := 80) X dX6_bring_80 (tgt := 86) (by decide) (fun c80 => ?_) (fun c80 => ?_)
                · have r1 := b2_n.mp c68
                  have r2 := b2_n.mp c80
                  obtain ⟨a, k, rfl, rfl, a1⟩ := runF_nat hT ht c57 r1
                  obtain ⟨b, k2, e2, rfl, b1⟩ := runF_nat hT ho c57 r2
                  have b2_ : b + k ≤ 60 := by have := congrArg Int32.toNatClampNeg e2; rw [nI_clamp (by omega), nI_clamp (by omega)] at this; omega
                  refine r_aload_n (pc := 86) X dX6_bring_86 rfl ?_
                  refine r_getr (pc := 87) X dX6_bring_87 tf_6_20 rfl (kc_70 C) (rc_70_2 C) ?_
                  refine r_iload_n (pc := 90) X dX6_bring_90 rfl ?_
                  refine r_aald (pc := 91) X dX6_bring_91 (kc_73 C) rfl (by omega) (by omega) (rc_row C ht) (by omega) ?_
                  refine r_iload_n (pc := 92) X dX6_bring_92 rfl ?_
                  refine r_aload_n (pc := 93) X dX6_bring_93 rfl ?_
                  refine r_getr (pc := 94) X dX6_bring_94 tf_6_20 rfl (kc_70 C) (rc_70_2 C) ?_
                  refine r_iload_n (pc := 97) X dX6_bring_97 rfl ?_
                  refine r_aald (pc := 98) X dX6_bring_98 (kc_73 C) rfl (by omega) (by omega) (rc_row C ho) (by omega) ?_
                  refine r_iload (pc := 99) X dX6_bring_99 rfl ?_
                  refine r_iload (pc := 101) X dX6_bring_101 rfl ?_
                  refine r_copylL (pc := 103) X rfl dX6_bring_103 tq_6_54 (kc_row C ht) (kc_row C ho) rfl rfl rfl ⟨a1, by omega⟩ ⟨b2_, by omega⟩ (Nat.le_of_ble_eq_true rfl) ?_
                  refine r_iload (pc := 106) X dX6_bring_106 rfl ?_
                  refine r_iret (pc := 108) X dX6_bring_108 rfl rfl ?_
                  refine ⟨⟨_, M, _, rfl, rfl, ?_, ?_⟩, rfl⟩
                  all_goals rw [bringF, if_pos ⟨inF_nat ht (by omega), inF_nat ho (by omega)⟩, if_neg (not_or.mpr ⟨tk_0 (M := M) (L := Lo) ht c23, tk_0 (M := M) (L := Lo) ho c31⟩), if_pos (show (Tc M Lo).1 (nI t).toNatClampNeg = (Tc M Lo).1 (nI o).toNatClampNeg by rw [nI_clamp (by omega), nI_clamp (by omega)]; exact c49), if_pos ⟨c57, by rw [nI_clamp (n := t) (by omega)]; exact r1, by rw [nI_clamp (n := o) (by omega)]; exact r2⟩]
                  rw [nI_clamp (n := t) (by omega), nI_clamp (n := o) (by omega), nI_clamp (n := a) (by omega), nI_clamp (n := b) (by omega), nI_clamp (n := k) (by omega)]
                  exact pT_copy ht ho a1 b2_
                · refine r_bipush (pc := 83) (v := (-13)) X dX6_bring_83 (by decide) ?_
                  refine r_iret (pc := 85) X dX6_bring_85 rfl rfl ?_
                  refine ⟨⟨_, M, Lo, rfl, rfl, ?_, ?_⟩, rfl⟩
                  · rw [bringF, if_pos ⟨inF_nat ht (by omega), inF_nat ho (by omega)⟩, if_neg (not_or.mpr ⟨tk_0 (M := M) (L := Lo) ht c23, tk_0 (M := M) (L := Lo) ho c31⟩), if_pos (show (Tc M Lo).1 (nI t).toNatClampNeg = (Tc M Lo).1 (nI o).toNatClampNeg by rw [nI_clamp (by omega), nI_clamp (by omega)]; exact c49), if_neg (c := _ ∧ _) (fun z => by rw [nI_clamp (n := t) (by omega), nI_clamp (n := o) (by omega)] at z; first | exact z.1 c57 | (have := b2_z.mp c68; exact absurd (z.2.1.symm.trans this) (by decide)) | (have := b2_z.mp c80; exact absurd (z.2.2.symm.trans this) (by decide)))]
                  · rw [bringF, if_pos ⟨inF_nat ht (by omega), inF_nat ho (by omega)⟩, if_neg (not_or.mpr ⟨tk_0 (M := M) (L := Lo) ht c23, tk_0 (M := M) (L := Lo) ho c31⟩), if_pos (show (Tc M Lo).1 (nI t).toNatClampNeg = (Tc M Lo).1 (nI o).toNatClampNeg by rw [nI_clamp (by omega), nI_clamp (by omega)]; exact c49), if_neg (c := _ ∧ _) (fun z => by rw [nI_clamp (n := t) (by omega), nI_clamp (n := o) (by omega)] at z; first | exact z.1 c57 | (have := b2_z.mp c68; exact absurd (z.2.1.symm.trans this) (by decide)) | (have := b2_z.mp c80; exact absurd (z.2.2.symm.trans this) (by decide)))]
                    exact pT.rf
          · refine r_bipush (pc := 52) (v := (-12)) X dX6_bring_52 (by decide) ?_
            refine r_iret (pc := 54) X dX6_bring_54 rfl rfl ?_
            refine ⟨⟨_, M, Lo, rfl, rfl, ?_, ?_⟩, rfl⟩
            · rw [bringF, if_pos ⟨inF_nat ht (by omega), inF_nat ho (by omega)⟩, if_neg (not_or.mpr ⟨tk_0 (M := M) (L := Lo) ht c23, tk_0 (M := M) (L := Lo) ho c31⟩), if_neg (show ¬ (Tc M Lo).1 (nI t).toNatClampNeg = (Tc M Lo).1 (nI o).toNatClampNeg by rw [nI_clamp (by omega), nI_clamp (by omega)]; exact c49)]
            · rw [bringF, if_pos ⟨inF_nat ht (by omega), inF_nat ho (by omega)⟩, if_neg (not_or.mpr ⟨tk_0 (M := M) (L := Lo) ht c23, tk_0 (M := M) (L := Lo) ho c31⟩), if_neg (show ¬ (Tc M Lo).1 (nI t).toNatClampNeg = (Tc M Lo).1 (nI o).toNatClampNeg by rw [nI_clamp (by omega), nI_clamp (by omega)]; exact c49)]
              exact pT.rf
        · refine r_bipush (pc := 34) (v := (-11)) X dX6_bring_34 (by decide) ?_
          refine r_iret (pc := 36) X dX6_bring_36 rfl rfl ?_
          first
            | (refine ⟨⟨_, M, Lo, rfl, rfl, ?_, ?_⟩, rfl⟩
               · rw [bringF, if_pos ⟨inF_nat ht (by omega), inF_nat ho (by omega)⟩, if_pos (Or.inl (tk_1 (M := M) (L := Lo) ht c23))]
               · rw [bringF, if_pos ⟨inF_nat ht (by omega), inF_nat ho (by omega)⟩, if_pos (Or.inl (tk_1 (M := M) (L := Lo) ht c23))]
                 exact pT.rf)
            | (refine ⟨⟨_, M, Lo, rfl, rfl, ?_, ?_⟩, rfl⟩
               · rw [bringF, if_pos ⟨inF_nat ht (by omega), inF_nat ho (by omega)⟩, if_pos (Or.inr (tk_1 (M := M) (L := Lo) ho c31))]
               · rw [bringF, if_pos ⟨inF_nat ht (by omega), inF_nat ho (by omega)⟩, if_pos (Or.inr (tk_1 (M := M) (L := Lo) ho c31))]
                 exact pT.rf)
    · refine r_iconst (pc := 16) (v := (-1)) X dX6_bring_16 (by decide) ?_
      refine r_iret (pc := 17) X dX6_bring_17 rfl rfl ?_
      first
        | (refine ⟨⟨_, M, Lo, rfl, rfl, ?_, ?_⟩, rfl⟩
           · rw [bringF, if_neg (fun z => absurd z.1 (by rw [b2_z.mp c5]; decide))]
           · rw [bringF, if_neg (fun z => absurd z.1 (by rw [b2_z.mp c5]; decide))]
             exact pT.rf)
        | (refine ⟨⟨_, M, Lo, rfl, rfl, ?_, ?_⟩, rfl⟩
           · rw [bringF, if_neg (fun z => absurd z.2 (by rw [b2_z.mp c13]; decide))]
           · rw [bringF, if_neg (fun z => absurd z.2 (by rw [b2_z.mp c13]; decide))]
             exact pT.rf)
