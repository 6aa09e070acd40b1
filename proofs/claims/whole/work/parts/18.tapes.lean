/-! the tapes -/
abbrev LMem : Type := Nat → Nat → Int64
def wl (h : hp_T) (L : LMem) : hp_T := (h.1, h.2.1, h.2.2.1, L, h.2.2.2.2)
def lU (L : LMem) (a : Nat) (f : Nat → Int64) : LMem := fun b => if b = a then f else L b
theorem lU_eq {L : LMem} {a : Nat} {f : Nat → Int64} : lU L a f a = f := if_pos rfl
theorem lU_ne {L : LMem} {a b : Nat} {f : Nat → Int64} (h : b ≠ a) : lU L a f b = L b := if_neg h
section RW18
variable {w : wc_T} {κ : cx_T} {d own nL : Nat} {cc : ByteArray} {rt : Option FieldType} {Φ : Option Value → hp_T → Prop} {pc : Nat} {L : List (Option Value)} {st : List Value} {h : hp_T} {M : Mem} {Lo : LMem}
theorem r_lastL (X : CX w κ d own cc nL rt Φ) {a n j : Nat} {i : Int32} {x : Int64} (dc : decode cc pc = .ok (.lastore, 1)) (hs : ck (wi (wl h Lo) M) a 4 n) (hi : i = nI j) (hj : j < n) (hn : n < 2 ^ 31) (kk : GG w κ (pc + 1) L st (wi (wl h (lU Lo a (vp_updL (Lo a) j x))) M)) : GG w κ pc L (.long x :: .int i :: .ref a :: st) (wi (wl h Lo) M) := r_last X dc hs hi hj hn kk
theorem r_laldL (X : CX w κ d own cc nL rt Φ) {a n j : Nat} {i : Int32} (dc : decode cc pc = .ok (.laload, 1)) (hs : ck (wi (wl h Lo) M) a 4 n) (hi : i = nI j) (hj : j < n) (hn : n < 2 ^ 31) {x : Int64} (hx : Lo a j = x) (kk : GG w κ (pc + 1) L (.long x :: st) (wi (wl h Lo) M)) : GG w κ pc L (.int i :: .ref a :: st) (wi (wl h Lo) M) := r_lald X dc hs hi hj hn hx kk
theorem r_copylL (X : CX w κ (d + 1) own cc nL rt Φ) {idx a b n0 n1 i j k : Nat} {zi zj zk : Int32} (hln : L.length = nL) (dc : decode cc pc = .ok (.invokestatic idx, 3)) (hm : Cond.methodLink (cn own) idx arraycopyName ∈ lw_tbl) (ha : ck (wi (wl h Lo) M) a 4 n0) (hb : ck (wi (wl h Lo) M) b 4 n1) (hi : zi = nI i) (hj : zj = nI j) (hk : zk = nI k) (h0 : i + k ≤ n0 ∧ n0 < 2 ^ 31) (h1 : j + k ≤ n1 ∧ n1 < 2 ^ 31) (hw : (st.map fun v => v.category).sum ≤ 8) (kk : GG w κ (pc + 3) L st (wi (wl h (lU Lo b (va_cpy (Lo a) (Lo b) i j k))) M)) : GG w κ pc L (.int zk :: .int zj :: .ref b :: .int zi :: .ref a :: st) (wi (wl h Lo) M) := r_copyl X hln dc hm ha hb hi hj hk h0 h1 hw kk
end RW18
def inF (x lo hi : Int32) : Bool := !decide (x < lo) && !decide (hi < x)
theorem inF_of {x : Int32} {b : Nat} (h : inF x (nI 0) (nI b) = true) (hb : b < 2 ^ 31) : ∃ t, t ≤ b ∧ x = nI t := by
  unfold inF at h
  simp at h
  obtain ⟨t, ht, rfl⟩ := nI_of (x := x) (fun z => by have := Int32.lt_iff_toInt_lt.mp z; have := Int32.le_iff_toInt_le.mp h.1; simp [nI_0] at *; omega)
  exact ⟨t, (nI_leI ht hb).mp h.2, rfl⟩
theorem inF_nat {t b : Nat} (ht : t ≤ b) (hb : b < 2 ^ 31) : inF (nI t) (nI 0) (nI b) = true := by
  unfold inF
  rw [decide_eq_false (nI_nlt (Nat.zero_le _) (by omega)), decide_eq_false (nI_nlt ht hb)]
  rfl
/-- sorts, sizes, items -/
abbrev TT : Type := (Nat → Int32) × (Nat → Int32) × (Nat → Nat → Int64)
def WT (T : TT) : Prop := ∀ t, t < 6 → ((T.1 t = -1 ∧ T.2.1 t = nI 0) ∨ ∃ s, s ≤ 4 ∧ T.1 t = nI s) ∧ ∃ n, n ≤ 60 ∧ T.2.1 t = nI n
def Tc (M : Mem) (L : LMem) : TT := (M 71, M 72, fun u i => if u < 6 ∧ i < 60 then L (74 + u) i else 0)
def tmake (T : TT) (t : Nat) (s z : Int32) : TT := (upd T.1 t s, upd T.2.1 t z, fun u i => if u = t then 0 else T.2.2 u i)
def makeF (T : TT) (x s n : Int32) : Int32 × TT :=
  if inF x (nI 0) (nI 5) = true then (if inF s (-1) (nI 4) = true then
    (if s = -1 then (nI 1, tmake T x.toNatClampNeg s (nI 0)) else if nI 60 < n then (-2, T) else if n < 0 then (-14, T) else (nI 1, tmake T x.toNatClampNeg s n)) else (-2, T)) else (-1, T)
def cutF (s : Int32) (v : Int64) : Int64 := if s = nI 0 then v.toInt32.toInt8.toInt32.toInt64 else if s = nI 1 then v.toInt32.toInt16.toInt32.toInt64 else if s = nI 2 then v.toInt32.toInt64 else if s = nI 3 then v else if v = 0 then 0 else 1
def placeF (T : TT) (t : Nat) (i : Int32) : Bool := !decide (i < 0) && !decide (T.2.1 t ≤ i)
def tput (T : TT) (t j : Nat) (v : Int64) : TT := (T.1, T.2.1, fun u i => if u = t ∧ i = j then v else T.2.2 u i)
def putF (T : TT) (x i : Int32) (v : Int64) : Int32 × TT :=
  if inF x (nI 0) (nI 5) = true then (if T.1 x.toNatClampNeg = -1 then (-11, T) else if placeF T x.toNatClampNeg i = true then (nI 1, tput T x.toNatClampNeg i.toNatClampNeg (cutF (T.1 x.toNatClampNeg) v)) else (-13, T)) else (-1, T)
def runF (T : TT) (t : Nat) (i n : Int32) : Bool := !decide (i < 0) && !decide (T.2.1 t - n < i)
def tcopy (T : TT) (t i o j n : Nat) : TT := (T.1, T.2.1, fun u k => if u = o ∧ j ≤ k ∧ k < j + n then T.2.2 t (i + (k - j)) else T.2.2 u k)
def bringF (T : TT) (x i y j n : Int32) : Int32 × TT :=
  if inF x (nI 0) (nI 5) = true ∧ inF y (nI 0) (nI 5) = true then (if T.1 x.toNatClampNeg = -1 ∨ T.1 y.toNatClampNeg = -1 then (-11, T) else if T.1 x.toNatClampNeg = T.1 y.toNatClampNeg then
    (if ¬ n < 0 ∧ runF T x.toNatClampNeg i n = true ∧ runF T y.toNatClampNeg j n = true then (n, tcopy T x.toNatClampNeg i.toNatClampNeg y.toNatClampNeg j.toNatClampNeg n.toNatClampNeg) else (-13, T)) else (-12, T)) else (-1, T)
def pT (M : Mem) (L : LMem) (T1 : TT) (M1 : Mem) (L1 : LMem) : Prop := Tc M1 L1 = T1 ∧ (∀ b, b ≠ 71 → b ≠ 72 → M1 b = M b) ∧ ∀ b, (b < 74 ∨ 79 < b) → L1 b = L b
theorem pT.rf {M : Mem} {L : LMem} : pT M L (Tc M L) M L := ⟨rfl, fun _ _ _ => rfl, fun _ _ => rfl⟩
theorem kc_row {h : hp_T} (C : CS h) {t : Nat} (ht : t ≤ 5) : ck h (74 + t) 4 60 := by
  rcases (show t = 0 ∨ t = 1 ∨ t = 2 ∨ t = 3 ∨ t = 4 ∨ t = 5 by omega) with rfl | rfl | rfl | rfl | rfl | rfl
  · exact kc_74 C
  · exact kc_75 C
  · exact kc_76 C
  · exact kc_77 C
  · exact kc_78 C
  · exact kc_79 C
theorem rc_row {h : hp_T} (C : CS h) {t : Nat} (ht : t ≤ 5) : h_r h 73 t = some (74 + t) := by
  rcases (show t = 0 ∨ t = 1 ∨ t = 2 ∨ t = 3 ∨ t = 4 ∨ t = 5 by omega) with rfl | rfl | rfl | rfl | rfl | rfl
  · exact rc_73_0 C
  · exact rc_73_1 C
  · exact rc_73_2 C
  · exact rc_73_3 C
  · exact rc_73_4 C
  · exact rc_73_5 C
theorem lg_eq0 {x y : Int64} : lg_cmp x y = 0 ↔ x = y := by
  unfold lg_cmp
  constructor
  · intro e
    by_cases c1 : x = y
    · exact c1
    · exfalso
      revert e
      simp only [c1, if_false]
      repeat' split
      all_goals decide
  · intro e
    subst e
    simp

set_option maxRecDepth 10000 in
set_option maxHeartbeats 4000000 in
theorem e_in : ∀ (d : Nat) {h : hp_T} (x lo hi : Int32), Ep d nX7_isWithin [.int x, .int lo, .int hi] h (.int (b2 (inF x lo hi))) := by
  intro d h x lo hi
  refine Ex.of mm_X7_isWithin (Nat.le_of_ble_eq_true rfl) fun w κ X hk hnm => ?_
  refine r_iload_n (pc := 0) X dX7_isWithin_0 rfl ?_
  refine r_iload_n (pc := 1) X dX7_isWithin_1 rfl ?_
  refine r_icmp_lt (pc := 2) X dX7_isWithin_2 (tgt := 14) (by decide) (fun c2 => ?_) (fun c2 => ?_)
  · refine r_iconst (pc := 14) (v := (nI 0)) X dX7_isWithin_14 (by decide) ?_
    refine r_iret (pc := 15) X dX7_isWithin_15 rfl rfl ?_
    exact ⟨⟨by simp [*, inF, b2], rfl⟩, rfl⟩
  · refine r_iload_n (pc := 5) X dX7_isWithin_5 rfl ?_
    refine r_iload_n (pc := 6) X dX7_isWithin_6 rfl ?_
    refine r_icmp_gt (pc := 7) X dX7_isWithin_7 (tgt := 14) (by decide) (fun c7 => ?_) (fun c7 => ?_)
    · refine r_iconst (pc := 14) (v := (nI 0)) X dX7_isWithin_14 (by decide) ?_
      refine r_iret (pc := 15) X dX7_isWithin_15 rfl rfl ?_
      exact ⟨⟨by simp [*, inF, b2], rfl⟩, rfl⟩
    · refine r_iconst (pc := 10) (v := (nI 1)) X dX7_isWithin_10 (by decide) ?_
      refine r_goto (pc := 11) X dX7_isWithin_11 (tgt := 15) (by decide) ?_
      refine r_iret (pc := 15) X dX7_isWithin_15 rfl rfl ?_
      exact ⟨⟨by simp [*, inF, b2], rfl⟩, rfl⟩
set_option maxRecDepth 10000 in
set_option maxHeartbeats 4000000 in
theorem e_digit : ∀ (d : Nat) {h : hp_T} (x : Int32), Ep (d + 1) nX7_isDigit [.int x] h (.int (b2 (inF x (nI 0) (nI 9)))) := by
  intro d h x
  refine Ex.of mm_X7_isDigit (Nat.le_of_ble_eq_true rfl) fun w κ X hk hnm => ?_
  refine r_iload_n (pc := 0) X dX7_isDigit_0 rfl ?_
  refine r_iconst (pc := 1) (v := (nI 0)) X dX7_isDigit_1 (by decide) ?_
  refine r_bipush (pc := 2) (v := (nI 9)) X dX7_isDigit_2 (by decide) ?_
  refine r_c1_3P (pc := 4) X rfl dX7_isDigit_4 tc_7_53 mm_X7_isWithin (e_in d _ _ _) (Nat.le_of_ble_eq_true rfl) ?_
  refine r_iret (pc := 7) X dX7_isDigit_7 rfl (b2_nar _) ?_
  exact ⟨⟨rfl, rfl⟩, rfl⟩
set_option maxRecDepth 10000 in
set_option maxHeartbeats 4000000 in
theorem e_door : ∀ (d : Nat) {h : hp_T} (x : Int32), Ep (d + 1) nX7_isDoor [.int x] h (.int (b2 (inF x (nI 0) (nI 19)))) := by
  intro d h x
  refine Ex.of mm_X7_isDoor (Nat.le_of_ble_eq_true rfl) fun w κ X hk hnm => ?_
  refine r_iload_n (pc := 0) X dX7_isDoor_0 rfl ?_
  refine r_iconst (pc := 1) (v := (nI 0)) X dX7_isDoor_1 (by decide) ?_
  refine r_bipush (pc := 2) (v := (nI 19)) X dX7_isDoor_2 (by decide) ?_
  refine r_c1_3P (pc := 4) X rfl dX7_isDoor_4 tc_7_53 mm_X7_isWithin (e_in d _ _ _) (Nat.le_of_ble_eq_true rfl) ?_
  refine r_iret (pc := 7) X dX7_isDoor_7 rfl (b2_nar _) ?_
  exact ⟨⟨rfl, rfl⟩, rfl⟩
set_option maxRecDepth 10000 in
set_option maxHeartbeats 4000000 in
theorem e_t_has : ∀ (d : Nat) {h : hp_T} (x : Int32), Ep (d + 1) nX6_has [.ref 70, .int x] h (.int (b2 (inF x (nI 0) (nI 5)))) := by
  intro d h x
  refine Ex.of mm_X6_has (Nat.le_of_ble_eq_true rfl) fun w κ X hk hnm => ?_
  refine r_iload_n (pc := 0) X dX6_has_0 rfl ?_
  refine r_iconst (pc := 1) (v := (nI 0)) X dX6_has_1 (by decide) ?_
  refine r_iconst (pc := 2) (v := (nI 5)) X dX6_has_2 (by decide) ?_
  refine r_c4_3P (pc := 3) X rfl dX6_has_3 tc_6_29 mm_X7_isWithin (e_in d _ _ _) (Nat.le_of_ble_eq_true rfl) ?_
  refine r_iret (pc := 6) X dX6_has_6 rfl (b2_nar _) ?_
  exact ⟨⟨rfl, rfl⟩, rfl⟩
set_option maxRecDepth 10000 in
set_option maxHeartbeats 4000000 in
theorem e_t_holds : ∀ (d : Nat) {h : hp_T} {t : Nat} (C : CS h) (ht : t ≤ 5), Ep d nX6_holds [.ref 70, .int (nI t)] h (.int (b2 (!decide (h_i h 71 t = -1)))) := by
  intro d h t C ht
  refine Ex.of mm_X6_holds (Nat.le_of_ble_eq_true rfl) fun w κ X hk hnm => ?_
  refine r_aload_n (pc := 0) X dX6_holds_0 rfl ?_
  refine r_getr (pc := 1) X dX6_holds_1 tf_6_11 rfl (kc_70 C) (rc_70_0 C) ?_
  refine r_iload_n (pc := 4) X dX6_holds_4 rfl ?_
  refine r_iald (pc := 5) X dX6_holds_5 (kc_71 C) rfl (by omega) (by omega) rfl ?_
  refine r_iconst (pc := 6) (v := (-1)) X dX6_holds_6 (by decide) ?_
  refine r_icmp_eq (pc := 7) X dX6_holds_7 (tgt := 14) (by decide) (fun c7 => ?_) (fun c7 => ?_)
  · refine r_iconst (pc := 14) (v := (nI 0)) X dX6_holds_14 (by decide) ?_
    refine r_iret (pc := 15) X dX6_holds_15 rfl rfl ?_
    exact ⟨⟨by simp [*, b2, b2], rfl⟩, rfl⟩
  · refine r_iconst (pc := 10) (v := (nI 1)) X dX6_holds_10 (by decide) ?_
    refine r_goto (pc := 11) X dX6_holds_11 (tgt := 15) (by decide) ?_
    refine r_iret (pc := 15) X dX6_holds_15 rfl rfl ?_
    exact ⟨⟨by simp [*, b2, b2], rfl⟩, rfl⟩
set_option maxRecDepth 10000 in
set_option maxHeartbeats 4000000 in
theorem e_t_place : ∀ (d : Nat) {h : hp_T} {t : Nat} (i : Int32) (C : CS h) (ht : t ≤ 5), Ep d nX6_hasPlace [.ref 70, .int (nI t), .int i] h (.int (b2 (placeF (Tc (h_i h) (h_l h)) t i))) := by
  intro d h t i C ht
  refine Ex.of mm_X6_hasPlace (Nat.le_of_ble_eq_true rfl) fun w κ X hk hnm => ?_
  refine r_iload_n (pc := 0) X dX6_hasPlace_0 rfl ?_
  refine r_if_lt (pc := 1) X dX6_hasPlace_1 (tgt := 18) (by decide) (fun c1 => ?_) (fun c1 => ?_)
  · refine r_iconst (pc := 18) (v := (nI 0)) X dX6_hasPlace_18 (by decide) ?_
    refine r_iret (pc := 19) X dX6_hasPlace_19 rfl rfl ?_
    exact ⟨⟨by simp [*, placeF, Tc, b2], rfl⟩, rfl⟩
  · refine r_iload_n (pc := 4) X dX6_hasPlace_4 rfl ?_
    refine r_aload_n (pc := 5) X dX6_hasPlace_5 rfl ?_
    refine r_getr (pc := 6) X dX6_hasPlace_6 tf_6_15 rfl (kc_70 C) (rc_70_1 C) ?_
    refine r_iload_n (pc := 9) X dX6_hasPlace_9 rfl ?_
    refine r_iald (pc := 10) X dX6_hasPlace_10 (kc_72 C) rfl (by omega) (by omega) rfl ?_
    refine r_icmp_ge (pc := 11) X dX6_hasPlace_11 (tgt := 18) (by decide) (fun c11 => ?_) (fun c11 => ?_)
    · refine r_iconst (pc := 18) (v := (nI 0)) X dX6_hasPlace_18 (by decide) ?_
      refine r_iret (pc := 19) X dX6_hasPlace_19 rfl rfl ?_
      exact ⟨⟨by simp [*, placeF, Tc, b2], rfl⟩, rfl⟩
    · refine r_iconst (pc := 14) (v := (nI 1)) X dX6_hasPlace_14 (by decide) ?_
      refine r_goto (pc := 15) X dX6_hasPlace_15 (tgt := 19) (by decide) ?_
      refine r_iret (pc := 19) X dX6_hasPlace_19 rfl rfl ?_
      exact ⟨⟨by simp [*, placeF, Tc, b2], rfl⟩, rfl⟩
set_option maxRecDepth 10000 in
set_option maxHeartbeats 4000000 in
theorem e_t_run : ∀ (d : Nat) {h : hp_T} {t : Nat} (i n : Int32) (C : CS h) (ht : t ≤ 5), Ep d nX6_hasRun [.ref 70, .int (nI t), .int i, .int n] h (.int (b2 (runF (Tc (h_i h) (h_l h)) t i n))) := by
  intro d h t i n C ht
  refine Ex.of mm_X6_hasRun (Nat.le_of_ble_eq_true rfl) fun w κ X hk hnm => ?_
  refine r_iload_n (pc := 0) X dX6_hasRun_0 rfl ?_
  refine r_if_lt (pc := 1) X dX6_hasRun_1 (tgt := 20) (by decide) (fun c1 => ?_) (fun c1 => ?_)
  · refine r_iconst (pc := 20) (v := (nI 0)) X dX6_hasRun_20 (by decide) ?_
    refine r_iret (pc := 21) X dX6_hasRun_21 rfl rfl ?_
    exact ⟨⟨by simp [*, runF, Tc, b2], rfl⟩, rfl⟩
  · refine r_iload_n (pc := 4) X dX6_hasRun_4 rfl ?_
    refine r_aload_n (pc := 5) X dX6_hasRun_5 rfl ?_
    refine r_getr (pc := 6) X dX6_hasRun_6 tf_6_15 rfl (kc_70 C) (rc_70_1 C) ?_
    refine r_iload_n (pc := 9) X dX6_hasRun_9 rfl ?_
    refine r_iald (pc := 10) X dX6_hasRun_10 (kc_72 C) rfl (by omega) (by omega) rfl ?_
    refine r_iload_n (pc := 11) X dX6_hasRun_11 rfl ?_
    refine r_isub (pc := 12) X dX6_hasRun_12 ?_
    refine r_icmp_gt (pc := 13) X dX6_hasRun_13 (tgt := 20) (by decide) (fun c13 => ?_) (fun c13 => ?_)
    · refine r_iconst (pc := 20) (v := (nI 0)) X dX6_hasRun_20 (by decide) ?_
      refine r_iret (pc := 21) X dX6_hasRun_21 rfl rfl ?_
      exact ⟨⟨by simp [*, runF, Tc, b2], rfl⟩, rfl⟩
    · refine r_iconst (pc := 16) (v := (nI 1)) X dX6_hasRun_16 (by decide) ?_
      refine r_goto (pc := 17) X dX6_hasRun_17 (tgt := 21) (by decide) ?_
      refine r_iret (pc := 21) X dX6_hasRun_21 rfl rfl ?_
      exact ⟨⟨by simp [*, runF, Tc, b2], rfl⟩, rfl⟩
set_option maxRecDepth 10000 in
set_option maxHeartbeats 4000000 in
theorem e_t_cut : ∀ (d : Nat) {h : hp_T} (s : Int32) (v : Int64), Ep d nX6_cut [.int s, .long v] h (.long (cutF s v)) := by
  intro d h s v
  refine Ex.of mm_X6_cut (Nat.le_of_ble_eq_true rfl) fun w κ X hk hnm => ?_
  refine r_iload_n (pc := 0) X dX6_cut_0 rfl ?_
  refine sw_X6_cut_1 X (fun z1 => ?_) (fun z1 => ?_) (fun z1 => ?_) (fun z1 => ?_) (fun z1 => ?_)
  · refine r_lload_n (pc := 32) X dX6_cut_32 rfl ?_
    refine r_l2i (pc := 33) X dX6_cut_33 rfl ?_
    refine r_i2b (pc := 34) X dX6_cut_34 rfl ?_
    refine r_i2l (pc := 35) X dX6_cut_35 rfl ?_
    refine r_lret (pc := 36) X dX6_cut_36 rfl ?_
    exact ⟨⟨by simp [*, cutF, nI_eq], rfl⟩, rfl⟩
  · refine r_lload_n (pc := 37) X dX6_cut_37 rfl ?_
    refine r_l2i (pc := 38) X dX6_cut_38 rfl ?_
    refine r_i2s (pc := 39) X dX6_cut_39 rfl ?_
    refine r_i2l (pc := 40) X dX6_cut_40 rfl ?_
    refine r_lret (pc := 41) X dX6_cut_41 rfl ?_
    exact ⟨⟨by simp [*, cutF, nI_eq], rfl⟩, rfl⟩
  · refine r_lload_n (pc := 42) X dX6_cut_42 rfl ?_
    refine r_l2i (pc := 43) X dX6_cut_43 rfl ?_
    refine r_i2l (pc := 44) X dX6_cut_44 rfl ?_
    refine r_lret (pc := 45) X dX6_cut_45 rfl ?_
    exact ⟨⟨by simp [*, cutF, nI_eq], rfl⟩, rfl⟩
  · refine r_lload_n (pc := 46) X dX6_cut_46 rfl ?_
    refine r_lret (pc := 47) X dX6_cut_47 rfl ?_
    exact ⟨⟨by simp [*, cutF, nI_eq], rfl⟩, rfl⟩
  · refine r_lload_n (pc := 48) X dX6_cut_48 rfl ?_
    refine r_lconst (pc := 49) (v := 0) X dX6_cut_49 (by decide) ?_
    refine r_lcmp (pc := 50) X dX6_cut_50 ?_
    refine r_if_eq (pc := 51) X dX6_cut_51 (tgt := 58) (by decide) (fun c51 => ?_) (fun c51 => ?_)
    · refine r_lconst (pc := 58) (v := 0) X dX6_cut_58 (by decide) ?_
      refine r_lret (pc := 59) X dX6_cut_59 rfl ?_
      simp only [lg_eq0] at c51
      exact ⟨⟨by simp [*, cutF], rfl⟩, rfl⟩
    · refine r_lconst (pc := 54) (v := 1) X dX6_cut_54 (by decide) ?_
      refine r_goto (pc := 55) X dX6_cut_55 (tgt := 59) (by decide) ?_
      refine r_lret (pc := 59) X dX6_cut_59 rfl ?_
      simp only [lg_eq0] at c51
      exact ⟨⟨by simp [*, cutF], rfl⟩, rfl⟩
