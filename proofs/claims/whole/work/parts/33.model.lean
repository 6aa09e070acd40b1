/-! THE REFERENCE. Its street, its evenings, by the same numbers -/
section RW33
variable {w : wc_T} {κ : cx_T} {d own nL : Nat} {cc : ByteArray} {rt : Option FieldType} {Φ : Option Value → hp_T → Prop} {pc : Nat} {L : List (Option Value)} {st : List Value} {h : hp_T}
theorem r_ldcw (X : CX w κ d own cc nL rt Φ) {idx : Nat} {v : Int32} (dc : decode cc pc = .ok (.ldc_w idx, 3)) (hw : Cond.constant (cn own) idx v ∈ lw_tbl) (kk : GG w κ (pc + 3) L (.int v :: st) h) : GG w κ pc L st h :=
  fun hg H locs ls hR hS hL => lv_ldcw X.ex X.cb X.ow (X.tg hw rfl) dc (kk hg H locs ls hR hS hL)
end RW33
def bkF (V : VT) : Int32 := if V 0 6 = 0 then -1 else V 0 7
def enF (V : VT) : Int32 := if V 0 10 = -5 then -1 else V 0 10
/-- the reference's street is V -/
def MSt (V : VT) (M : Mem) : Prop := M 80 0 = V 0 6 ∧ M 80 1 = V 0 9 ∧ M 80 2 = bkF V ∧ M 80 3 = V 0 8 ∧ M 80 4 = enF V ∧ ∀ f, 1 ≤ f → f ≤ 6 → M (80 + f) = V f
def trF (c : Nat) : Int32 := if c / 65536 ≤ 2 then nI (1000 * (c / 256 % 256) + 100 * (c / 65536) + c % 256) else if c / 65536 = 3 then -38 else if c / 65536 = 4 then -124 else -33
def ClM (M : Mem) (c : Nat) (x : CLS) : Prop := OkC x ∧ M 89 c = nI x.1 ∧ M 90 c = nI x.2.1 ∧ (x.1 ≤ 1 → ∃ a, a + x.2.2.length ≤ 100 * (c / 10) + 100 ∧ M 91 c = nI a ∧ M 92 c = nI (a + x.2.2.length) ∧ ∀ i, i < x.2.2.length → M 93 (a + i) = trF (x.2.2.getD i 0))
def clD (cl : List CLS) (j : Nat) : CLS := cl.getD j (0, 0, [])
def EvM (M : Mem) (k : Nat) (cl : List CLS) : Prop := k < 6 ∧ M 88 k = nI cl.length ∧ cl.length ≤ 10 ∧ ∀ j, j < cl.length → ClM M (10 * k + j) (clD cl j)
def evL (cl : List CLS) : EV := (nI (fcs cl (12, 5)).1, nI (fcs cl (12, 5)).2, rainC (flat cl).length (fun i => nI ((flat cl).getD i 0)))
def MEv (E : EV) (M : Mem) : Prop := (M 80 12 = -1 ∧ E = E0) ∨ ∃ k cl, M 80 12 = nI k ∧ EvM M k cl ∧ E = evL cl
/-- all but the street's own cells stays -/
def FS (M M1 : Mem) : Prop := (∀ b, (b < 80 ∨ 86 < b) → b ≠ 96 → M1 b = M b) ∧ ∀ j, 4 < j → M1 80 j = M 80 j
theorem FS.rf {M : Mem} : FS M M := ⟨fun _ _ _ => rfl, fun _ _ => rfl⟩
theorem FS.tr {M M1 M2 : Mem} (a : FS M M1) (b : FS M1 M2) : FS M M2 := ⟨fun q h1 h2 => (b.1 q h1 h2).trans (a.1 q h1 h2), fun j h => (b.2 j h).trans (a.2 j h)⟩
theorem FS.u0 {M : Mem} {j : Nat} {x : Int32} (hj : j ≤ 4) : FS M (mU M 80 (upd (M 80) j x)) := ⟨fun q h1 h2 => mU_ne (by omega), fun i hi => by rw [mU_eq]; exact if_neg (by omega)⟩
theorem FS.uf {M : Mem} {f : Nat} {g : Nat → Int32} (hf : 80 < f ∧ f ≤ 86) : FS M (mU M f g) := ⟨fun q h1 h2 => mU_ne (by omega), fun i hi => by rw [mU_ne (by omega)]⟩
theorem FS.u96 {M : Mem} {g : Nat → Int32} : FS M (mU M 96 g) := ⟨fun q h1 h2 => mU_ne h2, fun i hi => by rw [mU_ne (by omega)]⟩
theorem EvM.kept {M M1 : Mem} {k : Nat} {cl : List CLS} (e : EvM M k cl) (h : ∀ b, 88 ≤ b → b ≤ 93 → M1 b = M b) : EvM M1 k cl := by
  refine ⟨e.1, by rw [h 88 (by omega) (by omega)]; exact e.2.1, e.2.2.1, fun j hj => ?_⟩
  unfold ClM
  rw [h 89 (by omega) (by omega), h 90 (by omega) (by omega), h 91 (by omega) (by omega), h 92 (by omega) (by omega), h 93 (by omega) (by omega)]
  exact e.2.2.2 j hj
theorem MEv.kept {E : EV} {M M1 : Mem} (e : MEv E M) (h0 : M1 80 12 = M 80 12) (h : ∀ b, 88 ≤ b → b ≤ 93 → M1 b = M b) : MEv E M1 := by
  rcases e with e | ⟨k, cl, e1, e2, e3⟩
  · exact Or.inl ⟨h0.trans e.1, e.2⟩
  · exact Or.inr ⟨k, cl, h0.trans e1, e2.kept h, e3⟩
theorem MEv.fs {E : EV} {M M1 : Mem} (e : MEv E M) (f : FS M M1) : MEv E M1 := e.kept (f.2 12 (by omega)) (fun b h1 h2 => f.1 b (by omega) (by omega))
def begF (M : Mem) : Nat := if M 80 12 < 0 then 0 else 10 * (M 80 12).toNatClampNeg
def behF (M : Mem) : Nat := if M 80 12 < 0 then 0 else 10 * (M 80 12).toNatClampNeg + (M 88 (M 80 12).toNatClampNeg).toNatClampNeg
section S33
variable {E : EV} {V : VT} {M : Mem} {h : hp_T} {B : Nat}
theorem MSt.pp (S : MSt V M) (hW : WF B V) : M 80 0 = nI (vP V) := S.1.trans hW.1
theorem MSt.a1 (S : MSt V M) (k : Nat) : M 81 k = V 1 k := congrFun (S.2.2.2.2.2 1 (by omega) (by omega)) k
theorem MSt.a2 (S : MSt V M) (k : Nat) : M 82 k = V 2 k := congrFun (S.2.2.2.2.2 2 (by omega) (by omega)) k
theorem MSt.a3 (S : MSt V M) (k : Nat) : M 83 k = V 3 k := congrFun (S.2.2.2.2.2 3 (by omega) (by omega)) k
theorem MSt.a4 (S : MSt V M) (k : Nat) : M 84 k = V 4 k := congrFun (S.2.2.2.2.2 4 (by omega) (by omega)) k
theorem MSt.a5 (S : MSt V M) (k : Nat) : M 85 k = V 5 k := congrFun (S.2.2.2.2.2 5 (by omega) (by omega)) k
theorem MSt.a6 (S : MSt V M) (k : Nat) : M 86 k = V 6 k := congrFun (S.2.2.2.2.2 6 (by omega) (by omega)) k
end S33
set_option maxRecDepth 10000 in
set_option maxHeartbeats 4000000 in
theorem m_in : ∀ (d : Nat) {h : hp_T} (x lo hi : Int32), Ep d nX8_in [.ref 80, .int x, .int lo, .int hi] h (.int (b2 (inF x lo hi))) := by
  intro d h x lo hi
  refine Ex.of mm_X8_in (Nat.le_of_ble_eq_true rfl) fun w κ X hk hnm => ?_
  refine r_iload_n (pc := 0) X dX8_in_0 rfl ?_
  refine r_iload_n (pc := 1) X dX8_in_1 rfl ?_
  refine r_icmp_lt (pc := 2) X dX8_in_2 (tgt := 14) (by decide) (fun c2 => ?_) (fun c2 => ?_)
  · refine r_iconst (pc := 14) (v := (nI 0)) X dX8_in_14 (by decide) ?_
    refine r_iret (pc := 15) X dX8_in_15 rfl rfl ?_
    exact ⟨⟨by simp [*, inF, b2], rfl⟩, rfl⟩
  · refine r_iload_n (pc := 5) X dX8_in_5 rfl ?_
    refine r_iload_n (pc := 6) X dX8_in_6 rfl ?_
    refine r_icmp_gt (pc := 7) X dX8_in_7 (tgt := 14) (by decide) (fun c7 => ?_) (fun c7 => ?_)
    · refine r_iconst (pc := 14) (v := (nI 0)) X dX8_in_14 (by decide) ?_
      refine r_iret (pc := 15) X dX8_in_15 rfl rfl ?_
      exact ⟨⟨by simp [*, inF, b2], rfl⟩, rfl⟩
    · refine r_iconst (pc := 10) (v := (nI 1)) X dX8_in_10 (by decide) ?_
      refine r_goto (pc := 11) X dX8_in_11 (tgt := 15) (by decide) ?_
      refine r_iret (pc := 15) X dX8_in_15 rfl rfl ?_
      exact ⟨⟨by simp [*, inF, b2], rfl⟩, rfl⟩
def heldF (x y : Int32) : Int32 := if x < 0 then nI 0 else if y < x then y else x
def orF5 (x : Int32) : Int32 := if x < 0 then -5 else x
def lst0 (x : Int32) : Int32 := if x < 0 then nI 0 else x
set_option maxRecDepth 10000 in
set_option maxHeartbeats 4000000 in
theorem m_held : ∀ (d : Nat) {h : hp_T} (x y : Int32), Ep d nX8_held [.ref 80, .int x, .int y] h (.int (heldF x y)) := by
  intro d h x y
  refine Ex.of mm_X8_held (Nat.le_of_ble_eq_true rfl) fun w κ X hk hnm => ?_
  refine r_iload_n (pc := 0) X dX8_held_0 rfl ?_
  refine r_if_ge (pc := 1) X dX8_held_1 (tgt := 8) (by decide) (fun c1 => ?_) (fun c1 => ?_)
  · refine r_iload_n (pc := 8) X dX8_held_8 rfl ?_
    refine r_iload_n (pc := 9) X dX8_held_9 rfl ?_
    refine r_icmp_le (pc := 10) X dX8_held_10 (tgt := 17) (by decide) (fun c10 => ?_) (fun c10 => ?_)
    · refine r_iload_n (pc := 17) X dX8_held_17 rfl ?_
      refine r_iret (pc := 18) X dX8_held_18 rfl rfl ?_
      exact ⟨⟨by unfold heldF; rw [if_neg (Int32.not_lt.mpr c1), if_neg (Int32.not_lt.mpr c10)], rfl⟩, rfl⟩
    · refine r_iload_n (pc := 13) X dX8_held_13 rfl ?_
      refine r_goto (pc := 14) X dX8_held_14 (tgt := 18) (by decide) ?_
      refine r_iret (pc := 18) X dX8_held_18 rfl rfl ?_
      exact ⟨⟨by unfold heldF; rw [if_neg (Int32.not_lt.mpr c1), if_pos (Int32.not_le.mp c10)], rfl⟩, rfl⟩
  · refine r_iconst (pc := 4) (v := (nI 0)) X dX8_held_4 (by decide) ?_
    refine r_goto (pc := 5) X dX8_held_5 (tgt := 18) (by decide) ?_
    refine r_iret (pc := 18) X dX8_held_18 rfl rfl ?_
    exact ⟨⟨by unfold heldF; rw [if_pos (Int32.not_le.mp c1)], rfl⟩, rfl⟩
set_option maxRecDepth 10000 in
set_option maxHeartbeats 4000000 in
theorem m_orNone : ∀ (d : Nat) {h : hp_T} (x : Int32), Ep d nX8_orNone [.ref 80, .int x] h (.int (orF5 x)) := by
  intro d h x
  refine Ex.of mm_X8_orNone (Nat.le_of_ble_eq_true rfl) fun w κ X hk hnm => ?_
  refine r_iload_n (pc := 0) X dX8_orNone_0 rfl ?_
  refine r_if_ge (pc := 1) X dX8_orNone_1 (tgt := 9) (by decide) (fun c1 => ?_) (fun c1 => ?_)
  · refine r_iload_n (pc := 9) X dX8_orNone_9 rfl ?_
    refine r_iret (pc := 10) X dX8_orNone_10 rfl rfl ?_
    exact ⟨⟨by unfold orF5; rw [if_neg (Int32.not_lt.mpr c1)], rfl⟩, rfl⟩
  · refine r_bipush (pc := 4) (v := (-5)) X dX8_orNone_4 (by decide) ?_
    refine r_goto (pc := 6) X dX8_orNone_6 (tgt := 10) (by decide) ?_
    refine r_iret (pc := 10) X dX8_orNone_10 rfl rfl ?_
    exact ⟨⟨by unfold orF5; rw [if_pos (Int32.not_le.mp c1)], rfl⟩, rfl⟩
set_option maxRecDepth 10000 in
set_option maxHeartbeats 4000000 in
theorem m_least : ∀ (d : Nat) {h : hp_T} (x : Int32), Ep d nX8_least0 [.ref 80, .int x] h (.int (lst0 x)) := by
  intro d h x
  refine Ex.of mm_X8_least0 (Nat.le_of_ble_eq_true rfl) fun w κ X hk hnm => ?_
  refine r_iload_n (pc := 0) X dX8_least0_0 rfl ?_
  refine r_if_ge (pc := 1) X dX8_least0_1 (tgt := 8) (by decide) (fun c1 => ?_) (fun c1 => ?_)
  · refine r_iload_n (pc := 8) X dX8_least0_8 rfl ?_
    refine r_iret (pc := 9) X dX8_least0_9 rfl rfl ?_
    exact ⟨⟨by unfold lst0; rw [if_neg (Int32.not_lt.mpr c1)], rfl⟩, rfl⟩
  · refine r_iconst (pc := 4) (v := (nI 0)) X dX8_least0_4 (by decide) ?_
    refine r_goto (pc := 5) X dX8_least0_5 (tgt := 9) (by decide) ?_
    refine r_iret (pc := 9) X dX8_least0_9 rfl rfl ?_
    exact ⟨⟨by unfold lst0; rw [if_pos (Int32.not_le.mp c1)], rfl⟩, rfl⟩
set_option maxRecDepth 10000 in
set_option maxHeartbeats 4000000 in
theorem m_isDoor : ∀ (d : Nat) {h : hp_T} (x : Int32) (C : CS h), Ep (d + 1) nX8_isDoor [.ref 80, .int x] h (.int (b2 (inF x (nI 0) (nI 19)))) := by
  intro d h x C
  refine Ex.of mm_X8_isDoor (Nat.le_of_ble_eq_true rfl) fun w κ X hk hnm => ?_
  refine r_aload_n (pc := 0) X dX8_isDoor_0 rfl ?_
  refine r_iload_n (pc := 1) X dX8_isDoor_1 rfl ?_
  refine r_iconst (pc := 2) (v := (nI 0)) X dX8_isDoor_2 (by decide) ?_
  refine r_bipush (pc := 3) (v := (nI 19)) X dX8_isDoor_3 (by decide) ?_
  refine r_c0_3P (pc := 5) X rfl dX8_isDoor_5 tc_8_236 mm_X8_in (kc_80 C) rfl rfl (m_in d _ _ _) (Nat.le_of_ble_eq_true rfl) ?_
  refine r_iret (pc := 8) X dX8_isDoor_8 rfl (b2_nar _) ?_
  exact ⟨⟨rfl, rfl⟩, rfl⟩
set_option maxRecDepth 10000 in
set_option maxHeartbeats 4000000 in
theorem m_isHopes : ∀ (d : Nat) {h : hp_T} (x : Int32) (C : CS h), Ep (d + 1) nX8_isHopes [.ref 80, .int x] h (.int (b2 (inF x (nI 0) (nI 9)))) := by
  intro d h x C
  refine Ex.of mm_X8_isHopes (Nat.le_of_ble_eq_true rfl) fun w κ X hk hnm => ?_
  refine r_aload_n (pc := 0) X dX8_isHopes_0 rfl ?_
  refine r_iload_n (pc := 1) X dX8_isHopes_1 rfl ?_
  refine r_iconst (pc := 2) (v := (nI 0)) X dX8_isHopes_2 (by decide) ?_
  refine r_bipush (pc := 3) (v := (nI 9)) X dX8_isHopes_3 (by decide) ?_
  refine r_c0_3P (pc := 5) X rfl dX8_isHopes_5 tc_8_236 mm_X8_in (kc_80 C) rfl rfl (m_in d _ _ _) (Nat.le_of_ble_eq_true rfl) ?_
  refine r_iret (pc := 8) X dX8_isHopes_8 rfl (b2_nar _) ?_
  exact ⟨⟨rfl, rfl⟩, rfl⟩
set_option maxRecDepth 10000 in
set_option maxHeartbeats 4000000 in
theorem m_isFew : ∀ (d : Nat) {h : hp_T} (x : Int32) (C : CS h), Ep (d + 1) nX8_isFew [.ref 80, .int x] h (.int (b2 (inF x (nI 1) (nI 60)))) := by
  intro d h x C
  refine Ex.of mm_X8_isFew (Nat.le_of_ble_eq_true rfl) fun w κ X hk hnm => ?_
  refine r_aload_n (pc := 0) X dX8_isFew_0 rfl ?_
  refine r_iload_n (pc := 1) X dX8_isFew_1 rfl ?_
  refine r_iconst (pc := 2) (v := (nI 1)) X dX8_isFew_2 (by decide) ?_
  refine r_bipush (pc := 3) (v := (nI 60)) X dX8_isFew_3 (by decide) ?_
  refine r_c0_3P (pc := 5) X rfl dX8_isFew_5 tc_8_236 mm_X8_in (kc_80 C) rfl rfl (m_in d _ _ _) (Nat.le_of_ble_eq_true rfl) ?_
  refine r_iret (pc := 8) X dX8_isFew_8 rfl (b2_nar _) ?_
  exact ⟨⟨rfl, rfl⟩, rfl⟩
set_option maxRecDepth 10000 in
set_option maxHeartbeats 4000000 in
theorem m_isTape : ∀ (d : Nat) {h : hp_T} (x : Int32) (C : CS h), Ep (d + 1) nX8_isTape [.ref 80, .int x] h (.int (b2 (inF x (nI 0) (nI 5)))) := by
  intro d h x C
  refine Ex.of mm_X8_isTape (Nat.le_of_ble_eq_true rfl) fun w κ X hk hnm => ?_
  refine r_aload_n (pc := 0) X dX8_isTape_0 rfl ?_
  refine r_iload_n (pc := 1) X dX8_isTape_1 rfl ?_
  refine r_iconst (pc := 2) (v := (nI 0)) X dX8_isTape_2 (by decide) ?_
  refine r_iconst (pc := 3) (v := (nI 5)) X dX8_isTape_3 (by decide) ?_
  refine r_c0_3P (pc := 4) X rfl dX8_isTape_4 tc_8_236 mm_X8_in (kc_80 C) rfl rfl (m_in d _ _ _) (Nat.le_of_ble_eq_true rfl) ?_
  refine r_iret (pc := 7) X dX8_isTape_7 rfl (b2_nar _) ?_
  exact ⟨⟨rfl, rfl⟩, rfl⟩
theorem in_pred {x : Int32} {P : Nat} (hP : P ≤ 6) : inF x (nI 0) (nI P - nI 1) = hasF x (nI P) := by
  unfold inF hasF
  have e1 : (decide (x < nI 0)) = decide (x < 0) := rfl
  rw [e1]
  by_cases c : x < 0
  · rw [decide_eq_true c]; rfl
  · rw [decide_eq_false c]
    obtain ⟨j, hj, e⟩ := nI_of c
    subst e
    have e2 : decide (nI P - nI 1 < nI j) = decide (nI P ≤ nI j) := by
      by_cases z : P = 0
      · subst z
        rw [decide_eq_true (nI_le (Nat.zero_le j) hj), decide_eq_true]
        exact Int32.lt_of_lt_of_le (show nI 0 - nI 1 < 0 by decide) (nI_pos' hj)
      · rw [nI_subn (by omega)]
        by_cases y : P ≤ j
        · rw [decide_eq_true (nI_le y hj), decide_eq_true (nI_lt (by omega) hj)]
        · rw [decide_eq_false (nI_ge (by omega) (by omega)), decide_eq_false (nI_nlt (by omega) (by omega))]
    rw [e2]
set_option maxRecDepth 10000 in
set_option maxHeartbeats 4000000 in
theorem m_isPerson : ∀ (d : Nat) (x : Int32) {V : VT} {h : hp_T} {M : Mem} {B : Nat} (C : CS h) (S : MSt V M) (hW : WF B V), Ep (d + 1) nX8_isPerson [.ref 80, .int x] (wi h M) (.int (b2 (hasF x (V 0 6)))) := by
  intro d x V h M B C S hW
  have e9 : hasF x (V 0 6) = inF x (nI 0) (nI (vP V) - nI 1) := by rw [in_pred hW.2.1, hW.1]
  rw [e9]
  refine Ex.of mm_X8_isPerson (Nat.le_of_ble_eq_true rfl) fun w κ X hk hnm => ?_
  refine r_aload_n (pc := 0) X dX8_isPerson_0 rfl ?_
  refine r_iload_n (pc := 1) X dX8_isPerson_1 rfl ?_
  refine r_iconst (pc := 2) (v := (nI 0)) X dX8_isPerson_2 (by decide) ?_
  refine r_aload_n (pc := 3) X dX8_isPerson_3 rfl ?_
  refine r_getiW (pc := 4) X dX8_isPerson_4 tf_8_7 rfl (kc_80 C) (S.pp hW) ?_
  refine r_iconst (pc := 7) (v := (nI 1)) X dX8_isPerson_7 (by decide) ?_
  refine r_isub (pc := 8) X dX8_isPerson_8 ?_
  refine r_c0_3P (pc := 9) X rfl dX8_isPerson_9 tc_8_236 mm_X8_in (kc_80 C) rfl rfl (m_in d _ _ _) (Nat.le_of_ble_eq_true rfl) ?_
  refine r_iret (pc := 12) X dX8_isPerson_12 rfl (b2_nar _) ?_
  exact ⟨⟨rfl, rfl⟩, rfl⟩
theorem beg_none {M : Mem} (h : M 80 12 = -1) : begF M = 0 ∧ behF M = 0 := by
  unfold begF behF
  rw [h, if_pos (by decide), if_pos (by decide)]
  exact ⟨rfl, rfl⟩
theorem beg_some {M : Mem} {k : Nat} {cl : List CLS} (h : M 80 12 = nI k) (e : EvM M k cl) : begF M = 10 * k ∧ behF M = 10 * k + cl.length := by
  have h1 := e.1
  have h2 := e.2.2.1
  unfold begF behF
  rw [h, if_neg (nI_pos (by omega)), if_neg (nI_pos (by omega)), nI_clamp (by omega), e.2.1, nI_clamp (by omega)]
  exact ⟨rfl, rfl⟩
set_option maxRecDepth 10000 in
set_option maxHeartbeats 4000000 in
theorem m_begin : ∀ (d : Nat) {E : EV} {h : hp_T} {M : Mem} (C : CS h) (hE : MEv E M), Ep d nX8_begin [.ref 80] (wi h M) (.int (nI (begF M))) := by
  intro d E h M C hE
  refine Ex.of mm_X8_begin (Nat.le_of_ble_eq_true rfl) fun w κ X hk hnm => ?_
  rcases hE with ⟨e0, -⟩ | ⟨k, cl, e0, e1, -⟩
  · have e9 := beg_none e0
    refine r_aload_n (pc := 0) X dX8_begin_0 rfl ?_
    refine r_getiW (pc := 1) X dX8_begin_1 tf_8_47 rfl (kc_80 C) e0 ?_
    refine r_if_ge (pc := 4) X dX8_begin_4 (tgt := 11) (by decide) (fun c4 => ?_) (fun c4 => ?_)
    · exact absurd c4 (by decide)
    · refine r_iconst (pc := 7) (v := (nI 0)) X dX8_begin_7 (by decide) ?_
      refine r_goto (pc := 8) X dX8_begin_8 (tgt := 18) (by decide) ?_
      refine r_iret (pc := 18) X dX8_begin_18 rfl rfl ?_
      exact ⟨⟨by rw [e9.1], rfl⟩, rfl⟩
  · have e9 := beg_some e0 e1
    have k6 := e1.1
    have k10 := e1.2.2.1
    refine r_aload_n (pc := 0) X dX8_begin_0 rfl ?_
    refine r_getiW (pc := 1) X dX8_begin_1 tf_8_47 rfl (kc_80 C) e0 ?_
    refine r_if_ge (pc := 4) X dX8_begin_4 (tgt := 11) (by decide) (fun c4 => ?_) (fun c4 => ?_)
    · refine r_bipush (pc := 11) (v := (nI 10)) X dX8_begin_11 (by decide) ?_
      refine r_aload_n (pc := 13) X dX8_begin_13 rfl ?_
      refine r_getiW (pc := 14) X dX8_begin_14 tf_8_47 rfl (kc_80 C) e0 ?_
      refine r_imul (pc := 17) X dX8_begin_17 ?_
      refine r_iret (pc := 18) X dX8_begin_18 rfl rfl ?_
      exact ⟨⟨by rw [e9.1, pk_mul], rfl⟩, rfl⟩
    · exact absurd (nI_pos' (by omega)) c4
set_option maxRecDepth 10000 in
set_option maxHeartbeats 4000000 in
theorem m_behind : ∀ (d : Nat) {E : EV} {h : hp_T} {M : Mem} (C : CS h) (hE : MEv E M), Ep d nX8_behind [.ref 80] (wi h M) (.int (nI (behF M))) := by
  intro d E h M C hE
  refine Ex.of mm_X8_behind (Nat.le_of_ble_eq_true rfl) fun w κ X hk hnm => ?_
  rcases hE with ⟨e0, -⟩ | ⟨k, cl, e0, e1, -⟩
  · have e9 := beg_none e0
    refine r_aload_n (pc := 0) X dX8_behind_0 rfl ?_
    refine r_getiW (pc := 1) X dX8_behind_1 tf_8_47 rfl (kc_80 C) e0 ?_
    refine r_if_ge (pc := 4) X dX8_behind_4 (tgt := 11) (by decide) (fun c4 => ?_) (fun c4 => ?_)
    · exact absurd c4 (by decide)
    · refine r_iconst (pc := 7) (v := (nI 0)) X dX8_behind_7 (by decide) ?_
      refine r_goto (pc := 8) X dX8_behind_8 (tgt := 28) (by decide) ?_
      refine r_iret (pc := 28) X dX8_behind_28 rfl rfl ?_
      exact ⟨⟨by rw [e9.2], rfl⟩, rfl⟩
  · have e9 := beg_some e0 e1
    have k6 := e1.1
    have k10 := e1.2.2.1
    refine r_aload_n (pc := 0) X dX8_behind_0 rfl ?_
    refine r_getiW (pc := 1) X dX8_behind_1 tf_8_47 rfl (kc_80 C) e0 ?_
    refine r_if_ge (pc := 4) X dX8_behind_4 (tgt := 11) (by decide) (fun c4 => ?_) (fun c4 => ?_)
    · refine r_bipush (pc := 11) (v := (nI 10)) X dX8_behind_11 (by decide) ?_
      refine r_aload_n (pc := 13) X dX8_behind_13 rfl ?_
      refine r_getiW (pc := 14) X dX8_behind_14 tf_8_47 rfl (kc_80 C) e0 ?_
      refine r_imul (pc := 17) X dX8_behind_17 ?_
      refine r_aload_n (pc := 18) X dX8_behind_18 rfl ?_
      refine r_getr (pc := 19) X dX8_behind_19 tf_8_62 rfl (kc_80 C) (rc_80_17 C) ?_
      refine r_aload_n (pc := 22) X dX8_behind_22 rfl ?_
      refine r_getiW (pc := 23) X dX8_behind_23 tf_8_47 rfl (kc_80 C) e0 ?_
      refine r_ialdW (pc := 26) X dX8_behind_26 (kc_88 C) rfl e1.1 (by omega) e1.2.1 ?_
      refine r_iadd (pc := 27) X dX8_behind_27 ?_
      refine r_iret (pc := 28) X dX8_behind_28 rfl rfl ?_
      exact ⟨⟨by rw [e9.2, pk_mul, nI_add], rfl⟩, rfl⟩
    · exact absurd (nI_pos' (by omega)) c4
def lastW (x : Nat) (cl : List CLS) (n : Nat) : Nat := cl.foldl (fun a c => if c.1 = x then c.2.1 else a) n
theorem last_s {x n : Nat} {cl : List CLS} {c : CLS} : lastW x (cl ++ [c]) n = if c.1 = x then c.2.1 else lastW x cl n := by simp [lastW]
theorem last_fc : ∀ (cl : List CLS) (fc : FC), fcs cl fc = (lastW 2 cl fc.1, lastW 3 cl fc.2) := by
  intro cl
  induction cl with
  | nil => intro fc; rfl
  | cons c cl ih =>
    intro fc
    show fcs cl (fc1 c fc) = (lastW 2 cl (if c.1 = 2 then c.2.1 else fc.1), lastW 3 cl (if c.1 = 3 then c.2.1 else fc.2))
    rw [ih]
    unfold fc1
    by_cases c2 : c.1 = 2
    · rw [if_pos c2, if_pos c2, if_neg (by omega)]
    · rw [if_neg c2, if_neg c2]
      by_cases c3 : c.1 = 3
      · rw [if_pos c3, if_pos c3]
      · rw [if_neg c3, if_neg c3]
theorem last_le {x : Nat} : ∀ (cl : List CLS) (n : Nat), (∀ c, c ∈ cl → c.2.1 ≤ 99) → n ≤ 99 → lastW x cl n ≤ 99 := by
  intro cl
  induction cl with
  | nil => intro n _ hn; exact hn
  | cons c cl ih =>
    intro n h hn
    refine ih _ (fun b hb => h b (List.mem_cons_of_mem _ hb)) ?_
    show (if c.1 = x then c.2.1 else n) ≤ 99
    split
    · exact h c List.mem_cons_self
    · exact hn
theorem cl_take {cl : List CLS} {j : Nat} (h : j < cl.length) : cl.take (j + 1) = cl.take j ++ [clD cl j] := by
  rw [List.take_succ, List.getElem?_eq_getElem h]
  unfold clD
  rw [List.getD_eq_getElem?_getD, List.getElem?_eq_getElem h]
  rfl
/-- what an evening's last number is -/
def lastE (M : Mem) (x n : Nat) (y : Nat) : Prop := (M 80 12 = -1 ∧ y = n) ∨ ∃ k cl, M 80 12 = nI k ∧ EvM M k cl ∧ y = lastW x cl n
set_option maxRecDepth 10000 in
set_option maxHeartbeats 4000000 in
theorem l_last : ∀ (d : Nat) {E : EV} {h : hp_T} {M : Mem} (C : CS h) (hE : MEv E M) {k x n : Nat} {cl : List CLS} (e0 : M 80 12 = nI k) (e1 : EvM M k cl) (hx : x < 100) {w : wc_T} {κ : cx_T} {Φ : Option Value → hp_T → Prop} {y : Int32} (X : CX w κ (d + 1) 8 cX8_lastOf 5 (some .int) Φ) (hΦ : Φ (some (.int (nI (lastW x cl n)))) (wi h M)),
    ∀ (m j : Nat), j + m = cl.length → GG w κ 8 [some (.ref 80), some (.int (nI x)), some (.int y), some (.int (nI (lastW x (cl.take j) n))), some (.int (nI (10 * k + j)))] [] (wi h M) := by
  intro d E h M C hE k x n cl e0 e1 hx w κ Φ y X hΦ m
  have k6 := e1.1
  have k10 := e1.2.2.1
  have e9 := beg_some e0 e1
  induction m with
  | zero =>
    intro j hj
    have e : j = cl.length := by omega
    subst e
    rw [List.take_length]
    refine r_iload (pc := 8) X dX8_lastOf_8 rfl ?_
    refine r_aload_n (pc := 10) X dX8_lastOf_10 rfl ?_
    refine r_c0_0P (pc := 11) X rfl dX8_lastOf_11 tc_8_306 mm_X8_behind (kc_80 C) rfl rfl (m_behind d C hE) (Nat.le_of_ble_eq_true rfl) ?_
    rw [e9.2]
    refine r_icmp_geN (pc := 14) X dX8_lastOf_14 (tgt := 46) (by decide) (by omega) (by omega) (fun c14 => ?_) (fun c14 => ?_)
    · refine r_iload_n (pc := 46) X dX8_lastOf_46 rfl ?_
      refine r_iret (pc := 47) X dX8_lastOf_47 rfl rfl ?_
      exact hΦ
    · exact absurd (Nat.le_refl _) c14
  | succ m ih =>
    intro j hj
    have hjl : j < cl.length := by omega
    obtain ⟨o1, o2, o3, -⟩ := e1.2.2.2 j hjl
    have o4 := o1.1
    refine r_iload (pc := 8) X dX8_lastOf_8 rfl ?_
    refine r_aload_n (pc := 10) X dX8_lastOf_10 rfl ?_
    refine r_c0_0P (pc := 11) X rfl dX8_lastOf_11 tc_8_306 mm_X8_behind (kc_80 C) rfl rfl (m_behind d C hE) (Nat.le_of_ble_eq_true rfl) ?_
    rw [e9.2]
    refine r_icmp_geN (pc := 14) X dX8_lastOf_14 (tgt := 46) (by decide) (by omega) (by omega) (fun c14 => ?_) (fun c14 => ?_)
    · exact absurd c14 (by omega)
    · refine r_aload_n (pc := 17) X dX8_lastOf_17 rfl ?_
      refine r_getr (pc := 18) X dX8_lastOf_18 tf_8_65 rfl (kc_80 C) (rc_80_18 C) ?_
      refine r_iload (pc := 21) X dX8_lastOf_21 rfl ?_
      refine r_ialdW (pc := 23) X dX8_lastOf_23 (kc_89 C) rfl (show 10 * k + j < 60 by omega) (by omega) o2 ?_
      refine r_iload_n (pc := 24) X dX8_lastOf_24 rfl ?_
      refine r_icmp_neN (pc := 25) X dX8_lastOf_25 (tgt := 38) (by decide) (by omega) (by omega) (fun c25 => ?_) (fun c25 => ?_)
      · refine r_iload_n (pc := 38) X dX8_lastOf_38 rfl ?_
        refine r_istore_n (pc := 39) X dX8_lastOf_39 (Nat.le_of_ble_eq_true rfl) ?_
        refine r_iinc (pc := 40) X dX8_lastOf_40 rfl (by first | exact nI_i1 _ | rfl) ?_
        refine r_goto (pc := 43) X dX8_lastOf_43 (tgt := 8) (by decide) ?_
        have i1 := ih (j + 1) (by omega)
        rw [cl_take hjl, last_s, if_neg c25] at i1
        exact i1
      · refine r_aload_n (pc := 28) X dX8_lastOf_28 rfl ?_
        refine r_getr (pc := 29) X dX8_lastOf_29 tf_8_68 rfl (kc_80 C) (rc_80_19 C) ?_
        refine r_iload (pc := 32) X dX8_lastOf_32 rfl ?_
        refine r_ialdW (pc := 34) X dX8_lastOf_34 (kc_90 C) rfl (show 10 * k + j < 60 by omega) (by omega) o3 ?_
        refine r_goto (pc := 35) X dX8_lastOf_35 (tgt := 39) (by decide) ?_
        refine r_istore_n (pc := 39) X dX8_lastOf_39 (Nat.le_of_ble_eq_true rfl) ?_
        refine r_iinc (pc := 40) X dX8_lastOf_40 rfl (by first | exact nI_i1 _ | rfl) ?_
        refine r_goto (pc := 43) X dX8_lastOf_43 (tgt := 8) (by decide) ?_
        have i1 := ih (j + 1) (by omega)
        rw [cl_take hjl, last_s, if_pos c25] at i1
        exact i1
set_option maxRecDepth 10000 in
set_option maxHeartbeats 4000000 in
theorem m_lastOf : ∀ (d : Nat) {E : EV} {h : hp_T} {M : Mem} (C : CS h) (hE : MEv E M) {x n y : Nat} (hx : x < 100) (hy : lastE M x n y), Ep (d + 1) nX8_lastOf [.ref 80, .int (nI x), .int (nI n)] (wi h M) (.int (nI y)) := by
  intro d E h M C hE x n y hx hy
  refine Ex.of mm_X8_lastOf (Nat.le_of_ble_eq_true rfl) fun w κ X hk hnm => ?_
  rcases hy with ⟨e0, rfl⟩ | ⟨k, cl, e0, e1, rfl⟩
  · have e9 := beg_none e0
    refine r_iload_n (pc := 0) X dX8_lastOf_0 rfl ?_
    refine r_istore_n (pc := 1) X dX8_lastOf_1 (Nat.le_of_ble_eq_true rfl) ?_
    refine r_aload_n (pc := 2) X dX8_lastOf_2 rfl ?_
    refine r_c0_0P (pc := 3) X rfl dX8_lastOf_3 tc_8_303 mm_X8_begin (kc_80 C) rfl rfl (m_begin d C hE) (Nat.le_of_ble_eq_true rfl) ?_
    rw [e9.1]
    refine r_istore (pc := 6) X dX8_lastOf_6 (Nat.le_of_ble_eq_true rfl) ?_
    refine r_iload (pc := 8) X dX8_lastOf_8 rfl ?_
    refine r_aload_n (pc := 10) X dX8_lastOf_10 rfl ?_
    refine r_c0_0P (pc := 11) X rfl dX8_lastOf_11 tc_8_306 mm_X8_behind (kc_80 C) rfl rfl (m_behind d C hE) (Nat.le_of_ble_eq_true rfl) ?_
    rw [e9.2]
    refine r_icmp_geN (pc := 14) X dX8_lastOf_14 (tgt := 46) (by decide) (by omega) (by omega) (fun c14 => ?_) (fun c14 => ?_)
    · refine r_iload_n (pc := 46) X dX8_lastOf_46 rfl ?_
      refine r_iret (pc := 47) X dX8_lastOf_47 rfl rfl ?_
      exact ⟨⟨rfl, rfl⟩, rfl⟩
    · exact absurd (Nat.le_refl _) c14
  · have e9 := beg_some e0 e1
    refine r_iload_n (pc := 0) X dX8_lastOf_0 rfl ?_
    refine r_istore_n (pc := 1) X dX8_lastOf_1 (Nat.le_of_ble_eq_true rfl) ?_
    refine r_aload_n (pc := 2) X dX8_lastOf_2 rfl ?_
    refine r_c0_0P (pc := 3) X rfl dX8_lastOf_3 tc_8_303 mm_X8_begin (kc_80 C) rfl rfl (m_begin d C hE) (Nat.le_of_ble_eq_true rfl) ?_
    rw [e9.1]
    refine r_istore (pc := 6) X dX8_lastOf_6 (Nat.le_of_ble_eq_true rfl) ?_
    exact l_last d C hE e0 e1 hx X ⟨⟨rfl, rfl⟩, rfl⟩ cl.length 0 (by omega)
theorem MEv.far {E : EV} {M : Mem} (e : MEv E M) : ∃ y, y ≤ 99 ∧ lastE M 2 12 y ∧ E.1 = nI y := by
  rcases e with ⟨e0, e1⟩ | ⟨k, cl, e0, e1, e2⟩
  · exact ⟨12, by omega, Or.inl ⟨e0, rfl⟩, by rw [e1]; rfl⟩
  · refine ⟨lastW 2 cl 12, last_le cl 12 (fun c hc => ?_) (by omega), Or.inr ⟨k, cl, e0, e1, rfl⟩, by rw [e2]; show nI (fcs cl (12, 5)).1 = _; rw [last_fc]⟩
    obtain ⟨j, hj, ej⟩ := List.getElem_of_mem hc
    have := (e1.2.2.2 j hj).1.2.1
    unfold clD at this
    rw [List.getD_eq_getElem?_getD, List.getElem?_eq_getElem hj] at this
    rw [← ej]
    exact this
theorem MEv.cost {E : EV} {M : Mem} (e : MEv E M) : ∃ y, y ≤ 99 ∧ lastE M 3 5 y ∧ E.2.1 = nI y := by
  rcases e with ⟨e0, e1⟩ | ⟨k, cl, e0, e1, e2⟩
  · exact ⟨5, by omega, Or.inl ⟨e0, rfl⟩, by rw [e1]; rfl⟩
  · refine ⟨lastW 3 cl 5, last_le cl 5 (fun c hc => ?_) (by omega), Or.inr ⟨k, cl, e0, e1, rfl⟩, by rw [e2]; show nI (fcs cl (12, 5)).2 = _; rw [last_fc]⟩
    obtain ⟨j, hj, ej⟩ := List.getElem_of_mem hc
    have := (e1.2.2.2 j hj).1.2.1
    unfold clD at this
    rw [List.getD_eq_getElem?_getD, List.getElem?_eq_getElem hj] at this
    rw [← ej]
    exact this
theorem lst_mx {x : Int32} : lst0 x = mx (nI 0) x := by
  unfold lst0 mx
  by_cases c : x < 0
  · rw [if_pos c, if_neg (show ¬ nI 0 < x from fun z => Int32.lt_irrefl (Int32.lt_trans c z))]
  · rw [if_neg c]
    by_cases z : nI 0 < x
    · rw [if_pos z]
    · rw [if_neg z]
      exact Int32.le_antisymm (Int32.not_lt.mp z) (Int32.not_lt.mp c)
theorem dr_of {V : VT} {B p : Nat} (hW : WF B V) (hp : p < 6) : ∃ n, n ≤ 9 ∧ V 2 p = nI n ∧ (¬ V 2 p + nI 2 = 0) ∧ dreadF V p = decide (rem_ (V 0 9) (V 2 p + nI 2) = 0) := by
  obtain ⟨-, ⟨n, hn, e⟩, -⟩ := hW.2.2.2.2.2.2.1 p hp
  refine ⟨n, hn, e, by rw [e, nI_add]; exact nI_ne0 (by omega) (by omega), ?_⟩
  unfold dreadF
  rw [e, nI_add, decide_eq_false (nI_nle (by omega) (by omega))]
  rfl
set_option maxRecDepth 10000 in
set_option maxHeartbeats 4000000 in
theorem m_reach : ∀ (d : Nat) {E : EV} {V : VT} {h : hp_T} {M : Mem} {B : Nat} (C : CS h) (S : MSt V M) (hE : MEv E M) (hW : WF B V) {p : Nat} (hp : p < 6), Ep (d + 2) nX8_reach [.ref 80, .int (nI p)] (wi h M) (.int (reachF E V p)) := by
  intro d E V h M B C S hE hW p hp
  obtain ⟨y, hy, hl, ey⟩ := hE.far
  obtain ⟨nv, hnv, env, ne0, edr⟩ := dr_of hW hp
  have e9 : lst0 (nI y - V 0 8 / nI 8) = plainF E V := by rw [lst_mx, ← ey]; rfl
  have e8 : lst0 (plainF E V - V 2 p / nI 2) = oldF E V p := lst_mx
  refine Ex.of mm_X8_reach (Nat.le_of_ble_eq_true rfl) fun w κ X hk hnm => ?_
  refine r_aload_n (pc := 0) X dX8_reach_0 rfl ?_
  refine r_aload_n (pc := 1) X dX8_reach_1 rfl ?_
  refine r_iconst (pc := 2) (v := (nI 2)) X dX8_reach_2 (by decide) ?_
  refine r_bipush (pc := 3) (v := (nI 12)) X dX8_reach_3 (by decide) ?_
  refine r_c0_2P (pc := 5) X rfl dX8_reach_5 tc_8_316 mm_X8_lastOf (kc_80 C) rfl rfl (m_lastOf d C hE (by omega) hl) (Nat.le_of_ble_eq_true rfl) ?_
  refine r_aload_n (pc := 8) X dX8_reach_8 rfl ?_
  refine r_getiW (pc := 9) X dX8_reach_9 tf_8_19 rfl (kc_80 C) S.2.2.2.1 ?_
  refine r_bipush (pc := 12) (v := (nI 8)) X dX8_reach_12 (by decide) ?_
  refine r_idiv (pc := 14) X dX8_reach_14 (by decide) ?_
  refine r_isub (pc := 15) X dX8_reach_15 ?_
  refine r_c0_1P (pc := 16) X rfl dX8_reach_16 tc_8_319 mm_X8_least0 (kc_80 C) rfl rfl (m_least (d + 1) _) (Nat.le_of_ble_eq_true rfl) ?_
  rw [e9]
  refine r_istore_n (pc := 19) X dX8_reach_19 (Nat.le_of_ble_eq_true rfl) ?_
  refine r_aload_n (pc := 20) X dX8_reach_20 rfl ?_
  refine r_getr (pc := 21) X dX8_reach_21 tf_8_25 rfl (kc_80 C) (rc_80_5 C) ?_
  refine r_iload_n (pc := 24) X dX8_reach_24 rfl ?_
  refine r_ialdW (pc := 25) X dX8_reach_25 (kc_81 C) rfl hp (by omega) (S.a1 p) ?_
  refine sw_X8_reach_26 X (fun z26 => ?_) (fun z26 => ?_) (fun z26 => ?_) (fun z26 => ?_) (fun z26 => ?_) (fun z26 => ?_)
  · refine r_aload_n (pc := 64) X dX8_reach_64 rfl ?_
    refine r_iload_n (pc := 65) X dX8_reach_65 rfl ?_
    refine r_aload_n (pc := 66) X dX8_reach_66 rfl ?_
    refine r_getr (pc := 67) X dX8_reach_67 tf_8_29 rfl (kc_80 C) (rc_80_6 C) ?_
    refine r_iload_n (pc := 70) X dX8_reach_70 rfl ?_
    refine r_ialdW (pc := 71) X dX8_reach_71 (kc_82 C) rfl hp (by omega) (S.a2 p) ?_
    refine r_iconst (pc := 72) (v := (nI 2)) X dX8_reach_72 (by decide) ?_
    refine r_idiv (pc := 73) X dX8_reach_73 (by decide) ?_
    refine r_isub (pc := 74) X dX8_reach_74 ?_
    refine r_c0_1P (pc := 75) X rfl dX8_reach_75 tc_8_319 mm_X8_least0 (kc_80 C) rfl rfl (m_least (d + 1) _) (Nat.le_of_ble_eq_true rfl) ?_
    rw [e8]
    refine r_iret (pc := 78) X dX8_reach_78 rfl rfl ?_
    exact ⟨⟨by simp (decide := true) [reachF, z26], rfl⟩, rfl⟩
  · refine r_iload_n (pc := 79) X dX8_reach_79 rfl ?_
    refine r_iconst (pc := 80) (v := (nI 2)) X dX8_reach_80 (by decide) ?_
    refine r_iadd (pc := 81) X dX8_reach_81 ?_
    refine r_iret (pc := 82) X dX8_reach_82 rfl rfl ?_
    exact ⟨⟨by simp (decide := true) [reachF, z26], rfl⟩, rfl⟩
  · refine r_aload_n (pc := 83) X dX8_reach_83 rfl ?_
    refine r_iload_n (pc := 84) X dX8_reach_84 rfl ?_
    refine r_aload_n (pc := 85) X dX8_reach_85 rfl ?_
    refine r_getr (pc := 86) X dX8_reach_86 tf_8_29 rfl (kc_80 C) (rc_80_6 C) ?_
    refine r_iload_n (pc := 89) X dX8_reach_89 rfl ?_
    refine r_ialdW (pc := 90) X dX8_reach_90 (kc_82 C) rfl hp (by omega) (S.a2 p) ?_
    refine r_iconst (pc := 91) (v := (nI 2)) X dX8_reach_91 (by decide) ?_
    refine r_idiv (pc := 92) X dX8_reach_92 (by decide) ?_
    refine r_isub (pc := 93) X dX8_reach_93 ?_
    refine r_c0_1P (pc := 94) X rfl dX8_reach_94 tc_8_319 mm_X8_least0 (kc_80 C) rfl rfl (m_least (d + 1) _) (Nat.le_of_ble_eq_true rfl) ?_
    rw [e8]
    refine r_iconst (pc := 97) (v := (nI 2)) X dX8_reach_97 (by decide) ?_
    refine r_idiv (pc := 98) X dX8_reach_98 (by decide) ?_
    refine r_iret (pc := 99) X dX8_reach_99 rfl rfl ?_
    exact ⟨⟨by simp (decide := true) [reachF, z26], rfl⟩, rfl⟩
  · refine r_aload_n (pc := 100) X dX8_reach_100 rfl ?_
    refine r_getiW (pc := 101) X dX8_reach_101 tf_8_13 rfl (kc_80 C) S.2.1 ?_
    refine r_aload_n (pc := 104) X dX8_reach_104 rfl ?_
    refine r_getr (pc := 105) X dX8_reach_105 tf_8_29 rfl (kc_80 C) (rc_80_6 C) ?_
    refine r_iload_n (pc := 108) X dX8_reach_108 rfl ?_
    refine r_ialdW (pc := 109) X dX8_reach_109 (kc_82 C) rfl hp (by omega) (S.a2 p) ?_
    refine r_iconst (pc := 110) (v := (nI 2)) X dX8_reach_110 (by decide) ?_
    refine r_iadd (pc := 111) X dX8_reach_111 ?_
    refine r_irem (pc := 112) X dX8_reach_112 ne0 ?_
    refine r_if_ne (pc := 113) X dX8_reach_113 (tgt := 120) (by decide) (fun c113 => ?_) (fun c113 => ?_)
    · refine r_iload_n (pc := 120) X dX8_reach_120 rfl ?_
      refine r_iconst (pc := 121) (v := (nI 2)) X dX8_reach_121 (by decide) ?_
      refine r_iadd (pc := 122) X dX8_reach_122 ?_
      refine r_iret (pc := 123) X dX8_reach_123 rfl rfl ?_
      exact ⟨⟨by simp (decide := true) only [reachF, z26, if_true, if_false]; rw [edr]; simp (decide := true) [rem_, c113], rfl⟩, rfl⟩
    · refine r_iconst (pc := 116) (v := (nI 0)) X dX8_reach_116 (by decide) ?_
      refine r_goto (pc := 117) X dX8_reach_117 (tgt := 123) (by decide) ?_
      refine r_iret (pc := 123) X dX8_reach_123 rfl rfl ?_
      exact ⟨⟨by simp (decide := true) only [reachF, z26, if_true, if_false]; rw [edr]; simp (decide := true) [rem_, c113], rfl⟩, rfl⟩
  · refine r_iload_n (pc := 124) X dX8_reach_124 rfl ?_
    refine r_aload_n (pc := 125) X dX8_reach_125 rfl ?_
    refine r_getr (pc := 126) X dX8_reach_126 tf_8_41 rfl (kc_80 C) (rc_80_10 C) ?_
    refine r_iconst (pc := 129) (v := (nI 4)) X dX8_reach_129 (by decide) ?_
    refine r_iload_n (pc := 130) X dX8_reach_130 rfl ?_
    refine r_imul (pc := 131) X dX8_reach_131 ?_
    refine r_aload_n (pc := 132) X dX8_reach_132 rfl ?_
    refine r_getiW (pc := 133) X dX8_reach_133 tf_8_13 rfl (kc_80 C) S.2.1 ?_
    refine r_iconst (pc := 136) (v := (nI 4)) X dX8_reach_136 (by decide) ?_
    refine r_irem (pc := 137) X dX8_reach_137 (by decide) ?_
    refine r_iadd (pc := 138) X dX8_reach_138 ?_
    refine r_top (y := nI (p * 4 + (rem_ (V 0 9) (nI 4)).toNatClampNeg)) (by rw [← row_ix hW hp, pk_mul, pk_mul, Nat.mul_comm]) ?_
    refine r_ialdW (pc := 139) X dX8_reach_139 (kc_86 C) rfl (idx_row hW hp) (by omega) (S.a6 _) ?_
    refine r_iadd (pc := 140) X dX8_reach_140 ?_
    refine r_iret (pc := 141) X dX8_reach_141 rfl rfl ?_
    exact ⟨⟨by simp (decide := true) [reachF, z26], rfl⟩, rfl⟩
  · refine r_iload_n (pc := 142) X dX8_reach_142 rfl ?_
    refine r_iret (pc := 143) X dX8_reach_143 rfl rfl ?_
    exact ⟨⟨by simp (decide := true) [reachF, z26], rfl⟩, rfl⟩
theorem way_of {V : VT} {B p q : Nat} (hW : WF B V) (hp : p < 6) (hq : q < 6) : wayF V p q = if V 3 p < V 3 q then V 3 q - V 3 p else V 3 p - V 3 q := by
  obtain ⟨-, -, ⟨a, ha, ea⟩, -⟩ := hW.2.2.2.2.2.2.1 p hp
  obtain ⟨-, -, ⟨b, hb, eb⟩, -⟩ := hW.2.2.2.2.2.2.1 q hq
  unfold wayF
  rw [ea, eb]
  have key : ∀ a, a < 20 → ∀ b, b < 20 → (if 0 ≤ nI a - nI b then nI a - nI b else 0 - (nI a - nI b)) = if nI a < nI b then nI b - nI a else nI a - nI b := by decide +kernel
  exact key a (by omega) b (by omega)
set_option maxRecDepth 10000 in
set_option maxHeartbeats 4000000 in
theorem m_way : ∀ (d : Nat) {V : VT} {h : hp_T} {M : Mem} {B : Nat} (C : CS h) (S : MSt V M) (hW : WF B V) {p q : Nat} (hp : p < 6) (hq : q < 6), Ep d nX8_way [.ref 80, .int (nI p), .int (nI q)] (wi h M) (.int (wayF V p q)) := by
  intro d V h M B C S hW p q hp hq
  refine Ex.of mm_X8_way (Nat.le_of_ble_eq_true rfl) fun w κ X hk hnm => ?_
  refine r_aload_n (pc := 0) X dX8_way_0 rfl ?_
  refine r_getr (pc := 1) X dX8_way_1 tf_8_32 rfl (kc_80 C) (rc_80_7 C) ?_
  refine r_iload_n (pc := 4) X dX8_way_4 rfl ?_
  refine r_ialdW (pc := 5) X dX8_way_5 (kc_83 C) rfl hp (by omega) (S.a3 p) ?_
  refine r_aload_n (pc := 6) X dX8_way_6 rfl ?_
  refine r_getr (pc := 7) X dX8_way_7 tf_8_32 rfl (kc_80 C) (rc_80_7 C) ?_
  refine r_iload_n (pc := 10) X dX8_way_10 rfl ?_
  refine r_ialdW (pc := 11) X dX8_way_11 (kc_83 C) rfl hq (by omega) (S.a3 q) ?_
  refine r_icmp_ge (pc := 12) X dX8_way_12 (tgt := 31) (by decide) (fun c12 => ?_) (fun c12 => ?_)
  · refine r_aload_n (pc := 31) X dX8_way_31 rfl ?_
    refine r_getr (pc := 32) X dX8_way_32 tf_8_32 rfl (kc_80 C) (rc_80_7 C) ?_
    refine r_iload_n (pc := 35) X dX8_way_35 rfl ?_
    refine r_ialdW (pc := 36) X dX8_way_36 (kc_83 C) rfl hp (by omega) (S.a3 p) ?_
    refine r_aload_n (pc := 37) X dX8_way_37 rfl ?_
    refine r_getr (pc := 38) X dX8_way_38 tf_8_32 rfl (kc_80 C) (rc_80_7 C) ?_
    refine r_iload_n (pc := 41) X dX8_way_41 rfl ?_
    refine r_ialdW (pc := 42) X dX8_way_42 (kc_83 C) rfl hq (by omega) (S.a3 q) ?_
    refine r_isub (pc := 43) X dX8_way_43 ?_
    refine r_iret (pc := 44) X dX8_way_44 rfl rfl ?_
    exact ⟨⟨by rw [way_of hW hp hq, if_neg (Int32.not_lt.mpr c12)], rfl⟩, rfl⟩
  · refine r_aload_n (pc := 15) X dX8_way_15 rfl ?_
    refine r_getr (pc := 16) X dX8_way_16 tf_8_32 rfl (kc_80 C) (rc_80_7 C) ?_
    refine r_iload_n (pc := 19) X dX8_way_19 rfl ?_
    refine r_ialdW (pc := 20) X dX8_way_20 (kc_83 C) rfl hq (by omega) (S.a3 q) ?_
    refine r_aload_n (pc := 21) X dX8_way_21 rfl ?_
    refine r_getr (pc := 22) X dX8_way_22 tf_8_32 rfl (kc_80 C) (rc_80_7 C) ?_
    refine r_iload_n (pc := 25) X dX8_way_25 rfl ?_
    refine r_ialdW (pc := 26) X dX8_way_26 (kc_83 C) rfl hp (by omega) (S.a3 p) ?_
    refine r_isub (pc := 27) X dX8_way_27 ?_
    refine r_goto (pc := 28) X dX8_way_28 (tgt := 44) (by decide) ?_
    refine r_iret (pc := 44) X dX8_way_44 rfl rfl ?_
    exact ⟨⟨by rw [way_of hW hp hq, if_pos (Int32.not_le.mp c12)], rfl⟩, rfl⟩
def enc1 (r : Option Nat) : Int32 := match r with
  | none => -1
  | some q => nI q
theorem enc1_no {r : Option Nat} (hr : ∀ q, r = some q → q < 1000) (h : enc1 r < 0) : r = none := by
  cases r with
  | none => rfl
  | some q => exact absurd h (nI_pos (by have := hr q rfl; omega))
theorem enc1_so {r : Option Nat} (h : ¬ enc1 r < 0) : ∃ q, r = some q := by
  cases r with
  | none => exact absurd (show enc1 none < 0 by decide) h
  | some q => exact ⟨q, rfl⟩
theorem or_enc {r : Option Nat} (hr : ∀ q, r = some q → q < 1000) : orF5 (enc1 r) = enc5 r := by
  cases r with
  | none => rfl
  | some q => exact if_neg (nI_pos (by have := hr q rfl; omega))
set_option maxRecDepth 10000 in
set_option maxHeartbeats 4000000 in
theorem lm_near : ∀ (d : Nat) {E : EV} {V : VT} {h : hp_T} {M : Mem} {B : Nat} (C : CS h) (S : MSt V M) (hE : MEv E M) (hW : WF B V) {p : Nat}  (hp : p < 6) {w : wc_T} {κ : cx_T} {Φ : Option Value → hp_T → Prop} (X : CX w κ (d + 3) 8 cX8_nearest 4 (some .int) Φ) (hΦ : Φ (some (.int (enc1 (nearK V p (vP V))))) (wi h M)), ∀ n k : Nat, k + n = vP V → GG w κ 4 [some (.ref 80), some (.int (nI p)), some (.int (enc1 (nearK V p k))), some (.int (nI k))] [] (wi h M) := by
  intro d E V h M B C S hE hW p  hp w κ Φ X hΦ n
  have h6 := hW.2.1
  induction n with
  | zero =>
    intro k hk
    have e : k = vP V := by omega
    subst e
    refine r_iload_n (pc := 4) X dX8_nearest_4 rfl ?_
    refine r_aload_n (pc := 5) X dX8_nearest_5 rfl ?_
    refine r_getiW (pc := 6) X dX8_nearest_6 tf_8_7 rfl (kc_80 C) (S.pp hW) ?_
    refine r_icmp_geN (pc := 9) X dX8_nearest_9 (tgt := 44) (by decide) (by omega) (by omega) (fun c9 => ?_) (fun c9 => ?_)
    · refine r_iload_n (pc := 44) X dX8_nearest_44 rfl ?_
      refine r_iret (pc := 45) X dX8_nearest_45 rfl rfl ?_
      exact hΦ
    · exact absurd (Nat.le_refl _) c9
  | succ n ih =>
    intro k hk
    have hkp : k < 6 := by omega
    refine r_iload_n (pc := 4) X dX8_nearest_4 rfl ?_
    refine r_aload_n (pc := 5) X dX8_nearest_5 rfl ?_
    refine r_getiW (pc := 6) X dX8_nearest_6 tf_8_7 rfl (kc_80 C) (S.pp hW) ?_
    refine r_icmp_geN (pc := 9) X dX8_nearest_9 (tgt := 44) (by decide) (by omega) (by omega) (fun c9 => ?_) (fun c9 => ?_)
    · exact absurd c9 (by omega)
    · refine r_iload_n (pc := 12) X dX8_nearest_12 rfl ?_
      refine r_iload_n (pc := 13) X dX8_nearest_13 rfl ?_
      refine r_icmp_eqN (pc := 14) X dX8_nearest_14 (tgt := 38) (by decide) (by omega) (by omega) (fun c14 => ?_) (fun c14 => ?_)
      · refine r_iinc (pc := 38) X dX8_nearest_38 rfl (by first | exact nI_i1 _ | rfl) ?_
        refine r_goto (pc := 41) X dX8_nearest_41 (tgt := 4) (by decide) ?_
        have i1 := ih (k + 1) (by omega)
        rw [show nearK V p (k + 1) = nearK V p k by
            unfold nearK
            cases eb : bestO (fun q => !decide (q = p)) (fun q b => !decide (wayF V p b ≤ wayF V p q)) k with
            | none => rw [bestO_n eb, if_neg (by rw [decide_eq_true c14]; decide)]
            | some b => rw [bestO_s eb, if_neg (fun z => absurd z.1 (by rw [decide_eq_true c14]; decide))]] at i1
        exact i1
      · refine r_iload_n (pc := 17) X dX8_nearest_17 rfl ?_
        refine r_if_lt (pc := 18) X dX8_nearest_18 (tgt := 36) (by decide) (fun c18 => ?_) (fun c18 => ?_)
        · refine r_iload_n (pc := 36) X dX8_nearest_36 rfl ?_
          refine r_istore_n (pc := 37) X dX8_nearest_37 (Nat.le_of_ble_eq_true rfl) ?_
          refine r_iinc (pc := 38) X dX8_nearest_38 rfl (by first | exact nI_i1 _ | rfl) ?_
          refine r_goto (pc := 41) X dX8_nearest_41 (tgt := 4) (by decide) ?_
          have i1 := ih (k + 1) (by omega)
          have en := enc1_no (fun q hq => by have := bestO_lt hq; omega) c18
          rw [show nearK V p (k + 1) = some k from (bestO_n en).trans (if_pos (by rw [decide_eq_false c14]; rfl))] at i1
          exact i1
        · obtain ⟨b, eb⟩ := enc1_so c18
          have hb := bestO_lt eb
          rw [eb]
          refine r_aload_n (pc := 21) X dX8_nearest_21 rfl ?_
          refine r_iload_n (pc := 22) X dX8_nearest_22 rfl ?_
          refine r_iload_n (pc := 23) X dX8_nearest_23 rfl ?_
          refine r_c0_2P (pc := 24) X rfl dX8_nearest_24 tc_8_322 mm_X8_way (kc_80 C) rfl rfl (m_way (d + 2) C S hW hp hkp) (Nat.le_of_ble_eq_true rfl) ?_
          refine r_aload_n (pc := 27) X dX8_nearest_27 rfl ?_
          refine r_iload_n (pc := 28) X dX8_nearest_28 rfl ?_
          refine r_iload_n (pc := 29) X dX8_nearest_29 rfl ?_
          refine r_c0_2P (pc := 30) X rfl dX8_nearest_30 tc_8_322 mm_X8_way (kc_80 C) rfl rfl (m_way (d + 2) C S hW hp (show b < 6 by omega)) (Nat.le_of_ble_eq_true rfl) ?_
          refine r_icmp_ge (pc := 33) X dX8_nearest_33 (tgt := 38) (by decide) (fun c33 => ?_) (fun c33 => ?_)
          · refine r_iinc (pc := 38) X dX8_nearest_38 rfl (by first | exact nI_i1 _ | rfl) ?_
            refine r_goto (pc := 41) X dX8_nearest_41 (tgt := 4) (by decide) ?_
            have i1 := ih (k + 1) (by omega)
            rw [show nearK V p (k + 1) = some b from (bestO_s eb).trans (if_neg (fun z => absurd z.2 (by rw [decide_eq_true c33]; decide)))] at i1
            exact i1
          · refine r_iload_n (pc := 36) X dX8_nearest_36 rfl ?_
            refine r_istore_n (pc := 37) X dX8_nearest_37 (Nat.le_of_ble_eq_true rfl) ?_
            refine r_iinc (pc := 38) X dX8_nearest_38 rfl (by first | exact nI_i1 _ | rfl) ?_
            refine r_goto (pc := 41) X dX8_nearest_41 (tgt := 4) (by decide) ?_
            have i1 := ih (k + 1) (by omega)
            rw [show nearK V p (k + 1) = some k from (bestO_s eb).trans (if_pos ⟨by rw [decide_eq_false c14]; rfl, by rw [decide_eq_false c33]; rfl⟩)] at i1
            exact i1
set_option maxRecDepth 10000 in
set_option maxHeartbeats 4000000 in
theorem m_nearest : ∀ (d : Nat) {E : EV} {V : VT} {h : hp_T} {M : Mem} {B : Nat} (C : CS h) (S : MSt V M) (hE : MEv E M) (hW : WF B V) {p : Nat} (hp : p < 6), Ep (d + 3) nX8_nearest [.ref 80, .int (nI p)] (wi h M) (.int (enc1 (nearK V p (vP V)))) := by
  intro d E V h M B C S hE hW p hp
  refine Ex.of mm_X8_nearest (Nat.le_of_ble_eq_true rfl) fun w κ X hk hnm => ?_
  refine r_iconst (pc := 0) (v := (-1)) X dX8_nearest_0 (by decide) ?_
  refine r_istore_n (pc := 1) X dX8_nearest_1 (Nat.le_of_ble_eq_true rfl) ?_
  refine r_iconst (pc := 2) (v := (nI 0)) X dX8_nearest_2 (by decide) ?_
  refine r_istore_n (pc := 3) X dX8_nearest_3 (Nat.le_of_ble_eq_true rfl) ?_
  exact lm_near d C S hE hW hp X ⟨⟨rfl, rfl⟩, rfl⟩ (vP V) 0 (by omega)
set_option maxRecDepth 10000 in
set_option maxHeartbeats 4000000 in
theorem lm_hope : ∀ (d : Nat) {E : EV} {V : VT} {h : hp_T} {M : Mem} {B : Nat} (C : CS h) (S : MSt V M) (hE : MEv E M) (hW : WF B V) {p : Nat}  (hp : p < 6) {w : wc_T} {κ : cx_T} {Φ : Option Value → hp_T → Prop} (X : CX w κ (d + 3) 8 cX8_hopeful 4 (some .int) Φ) (hΦ : Φ (some (.int (enc1 (hopeK V p (vP V))))) (wi h M)), ∀ n k : Nat, k + n = vP V → GG w κ 4 [some (.ref 80), some (.int (nI p)), some (.int (enc1 (hopeK V p k))), some (.int (nI k))] [] (wi h M) := by
  intro d E V h M B C S hE hW p  hp w κ Φ X hΦ n
  have h6 := hW.2.1
  induction n with
  | zero =>
    intro k hk
    have e : k = vP V := by omega
    subst e
    refine r_iload_n (pc := 4) X dX8_hopeful_4 rfl ?_
    refine r_aload_n (pc := 5) X dX8_hopeful_5 rfl ?_
    refine r_getiW (pc := 6) X dX8_hopeful_6 tf_8_7 rfl (kc_80 C) (S.pp hW) ?_
    refine r_icmp_geN (pc := 9) X dX8_hopeful_9 (tgt := 44) (by decide) (by omega) (by omega) (fun c9 => ?_) (fun c9 => ?_)
    · refine r_iload_n (pc := 44) X dX8_hopeful_44 rfl ?_
      refine r_iret (pc := 45) X dX8_hopeful_45 rfl rfl ?_
      exact hΦ
    · exact absurd (Nat.le_refl _) c9
  | succ n ih =>
    intro k hk
    have hkp : k < 6 := by omega
    refine r_iload_n (pc := 4) X dX8_hopeful_4 rfl ?_
    refine r_aload_n (pc := 5) X dX8_hopeful_5 rfl ?_
    refine r_getiW (pc := 6) X dX8_hopeful_6 tf_8_7 rfl (kc_80 C) (S.pp hW) ?_
    refine r_icmp_geN (pc := 9) X dX8_hopeful_9 (tgt := 44) (by decide) (by omega) (by omega) (fun c9 => ?_) (fun c9 => ?_)
    · exact absurd c9 (by omega)
    · refine r_iload_n (pc := 12) X dX8_hopeful_12 rfl ?_
      refine r_iload_n (pc := 13) X dX8_hopeful_13 rfl ?_
      refine r_icmp_eqN (pc := 14) X dX8_hopeful_14 (tgt := 38) (by decide) (by omega) (by omega) (fun c14 => ?_) (fun c14 => ?_)
      · refine r_iinc (pc := 38) X dX8_hopeful_38 rfl (by first | exact nI_i1 _ | rfl) ?_
        refine r_goto (pc := 41) X dX8_hopeful_41 (tgt := 4) (by decide) ?_
        have i1 := ih (k + 1) (by omega)
        rw [show hopeK V p (k + 1) = hopeK V p k by
            unfold hopeK
            cases eb : bestO (fun q => !decide (q = p)) (fun q b => !decide (V 4 q ≤ V 4 b)) k with
            | none => rw [bestO_n eb, if_neg (by rw [decide_eq_true c14]; decide)]
            | some b => rw [bestO_s eb, if_neg (fun z => absurd z.1 (by rw [decide_eq_true c14]; decide))]] at i1
        exact i1
      · refine r_iload_n (pc := 17) X dX8_hopeful_17 rfl ?_
        refine r_if_lt (pc := 18) X dX8_hopeful_18 (tgt := 36) (by decide) (fun c18 => ?_) (fun c18 => ?_)
        · refine r_iload_n (pc := 36) X dX8_hopeful_36 rfl ?_
          refine r_istore_n (pc := 37) X dX8_hopeful_37 (Nat.le_of_ble_eq_true rfl) ?_
          refine r_iinc (pc := 38) X dX8_hopeful_38 rfl (by first | exact nI_i1 _ | rfl) ?_
          refine r_goto (pc := 41) X dX8_hopeful_41 (tgt := 4) (by decide) ?_
          have i1 := ih (k + 1) (by omega)
          have en := enc1_no (fun q hq => by have := bestO_lt hq; omega) c18
          rw [show hopeK V p (k + 1) = some k from (bestO_n en).trans (if_pos (by rw [decide_eq_false c14]; rfl))] at i1
          exact i1
        · obtain ⟨b, eb⟩ := enc1_so c18
          have hb := bestO_lt eb
          rw [eb]
          refine r_aload_n (pc := 21) X dX8_hopeful_21 rfl ?_
          refine r_getr (pc := 22) X dX8_hopeful_22 tf_8_35 rfl (kc_80 C) (rc_80_8 C) ?_
          refine r_iload_n (pc := 25) X dX8_hopeful_25 rfl ?_
          refine r_ialdW (pc := 26) X dX8_hopeful_26 (kc_84 C) rfl hkp (by omega) (S.a4 k) ?_
          refine r_aload_n (pc := 27) X dX8_hopeful_27 rfl ?_
          refine r_getr (pc := 28) X dX8_hopeful_28 tf_8_35 rfl (kc_80 C) (rc_80_8 C) ?_
          refine r_iload_n (pc := 31) X dX8_hopeful_31 rfl ?_
          refine r_ialdW (pc := 32) X dX8_hopeful_32 (kc_84 C) rfl (show b < 6 by omega) (by omega) (S.a4 b) ?_
          refine r_icmp_le (pc := 33) X dX8_hopeful_33 (tgt := 38) (by decide) (fun c33 => ?_) (fun c33 => ?_)
          · refine r_iinc (pc := 38) X dX8_hopeful_38 rfl (by first | exact nI_i1 _ | rfl) ?_
            refine r_goto (pc := 41) X dX8_hopeful_41 (tgt := 4) (by decide) ?_
            have i1 := ih (k + 1) (by omega)
            rw [show hopeK V p (k + 1) = some b from (bestO_s eb).trans (if_neg (fun z => absurd z.2 (by rw [decide_eq_true c33]; decide)))] at i1
            exact i1
          · refine r_iload_n (pc := 36) X dX8_hopeful_36 rfl ?_
            refine r_istore_n (pc := 37) X dX8_hopeful_37 (Nat.le_of_ble_eq_true rfl) ?_
            refine r_iinc (pc := 38) X dX8_hopeful_38 rfl (by first | exact nI_i1 _ | rfl) ?_
            refine r_goto (pc := 41) X dX8_hopeful_41 (tgt := 4) (by decide) ?_
            have i1 := ih (k + 1) (by omega)
            rw [show hopeK V p (k + 1) = some k from (bestO_s eb).trans (if_pos ⟨by rw [decide_eq_false c14]; rfl, by rw [decide_eq_false c33]; rfl⟩)] at i1
            exact i1
set_option maxRecDepth 10000 in
set_option maxHeartbeats 4000000 in
theorem m_hopeful : ∀ (d : Nat) {E : EV} {V : VT} {h : hp_T} {M : Mem} {B : Nat} (C : CS h) (S : MSt V M) (hE : MEv E M) (hW : WF B V) {p : Nat} (hp : p < 6), Ep (d + 3) nX8_hopeful [.ref 80, .int (nI p)] (wi h M) (.int (enc1 (hopeK V p (vP V)))) := by
  intro d E V h M B C S hE hW p hp
  refine Ex.of mm_X8_hopeful (Nat.le_of_ble_eq_true rfl) fun w κ X hk hnm => ?_
  refine r_iconst (pc := 0) (v := (-1)) X dX8_hopeful_0 (by decide) ?_
  refine r_istore_n (pc := 1) X dX8_hopeful_1 (Nat.le_of_ble_eq_true rfl) ?_
  refine r_iconst (pc := 2) (v := (nI 0)) X dX8_hopeful_2 (by decide) ?_
  refine r_istore_n (pc := 3) X dX8_hopeful_3 (Nat.le_of_ble_eq_true rfl) ?_
  exact lm_hope d C S hE hW hp X ⟨⟨rfl, rfl⟩, rfl⟩ (vP V) 0 (by omega)
set_option maxRecDepth 10000 in
set_option maxHeartbeats 4000000 in
theorem lm_far : ∀ (d : Nat) {E : EV} {V : VT} {h : hp_T} {M : Mem} {B : Nat} (C : CS h) (S : MSt V M) (hE : MEv E M) (hW : WF B V) {p : Nat} {x : Int32} (hp : p < 6) {w : wc_T} {κ : cx_T} {Φ : Option Value → hp_T → Prop} (X : CX w κ (d + 3) 8 cX8_farthest 5 (some .int) Φ) (hΦ : Φ (some (.int (enc1 (farK V p x (vP V))))) (wi h M)), ∀ n k : Nat, k + n = vP V → GG w κ 11 [some (.ref 80), some (.int (nI p)), some (.int (enc1 (farK V p x k))), some (.int x), some (.int (nI k))] [] (wi h M) := by
  intro d E V h M B C S hE hW p x hp w κ Φ X hΦ n
  have h6 := hW.2.1
  induction n with
  | zero =>
    intro k hk
    have e : k = vP V := by omega
    subst e
    refine r_iload (pc := 11) X dX8_farthest_11 rfl ?_
    refine r_aload_n (pc := 13) X dX8_farthest_13 rfl ?_
    refine r_getiW (pc := 14) X dX8_farthest_14 tf_8_7 rfl (kc_80 C) (S.pp hW) ?_
    refine r_icmp_geN (pc := 17) X dX8_farthest_17 (tgt := 66) (by decide) (by omega) (by omega) (fun c17 => ?_) (fun c17 => ?_)
    · refine r_iload_n (pc := 66) X dX8_farthest_66 rfl ?_
      refine r_iret (pc := 67) X dX8_farthest_67 rfl rfl ?_
      exact hΦ
    · exact absurd (Nat.le_refl _) c17
  | succ n ih =>
    intro k hk
    have hkp : k < 6 := by omega
    refine r_iload (pc := 11) X dX8_farthest_11 rfl ?_
    refine r_aload_n (pc := 13) X dX8_farthest_13 rfl ?_
    refine r_getiW (pc := 14) X dX8_farthest_14 tf_8_7 rfl (kc_80 C) (S.pp hW) ?_
    refine r_icmp_geN (pc := 17) X dX8_farthest_17 (tgt := 66) (by decide) (by omega) (by omega) (fun c17 => ?_) (fun c17 => ?_)
    · exact absurd c17 (by omega)
    · refine r_iload (pc := 20) X dX8_farthest_20 rfl ?_
      refine r_iload_n (pc := 22) X dX8_farthest_22 rfl ?_
      refine r_icmp_eqN (pc := 23) X dX8_farthest_23 (tgt := 60) (by decide) (by omega) (by omega) (fun c23 => ?_) (fun c23 => ?_)
      · refine r_iinc (pc := 60) X dX8_farthest_60 rfl (by first | exact nI_i1 _ | rfl) ?_
        refine r_goto (pc := 63) X dX8_farthest_63 (tgt := 11) (by decide) ?_
        have i1 := ih (k + 1) (by omega)
        rw [show farK V p x (k + 1) = farK V p x k by
            unfold farK
            cases eb : bestO (fun q => !decide (q = p) && !decide (x < wayF V p q)) (fun q b => !decide (wayF V p q ≤ wayF V p b)) k with
            | none => rw [bestO_n eb, if_neg (by rw [decide_eq_true c23]; simp)]
            | some b => rw [bestO_s eb, if_neg (fun z => absurd z.1 (by rw [decide_eq_true c23]; simp))]] at i1
        exact i1
      · refine r_aload_n (pc := 26) X dX8_farthest_26 rfl ?_
        refine r_iload_n (pc := 27) X dX8_farthest_27 rfl ?_
        refine r_iload (pc := 28) X dX8_farthest_28 rfl ?_
        refine r_c0_2P (pc := 30) X rfl dX8_farthest_30 tc_8_322 mm_X8_way (kc_80 C) rfl rfl (m_way (d + 2) C S hW hp hkp) (Nat.le_of_ble_eq_true rfl) ?_
        refine r_iload_n (pc := 33) X dX8_farthest_33 rfl ?_
        refine r_icmp_gt (pc := 34) X dX8_farthest_34 (tgt := 60) (by decide) (fun c34 => ?_) (fun c34 => ?_)
        · refine r_iinc (pc := 60) X dX8_farthest_60 rfl (by first | exact nI_i1 _ | rfl) ?_
          refine r_goto (pc := 63) X dX8_farthest_63 (tgt := 11) (by decide) ?_
          have i1 := ih (k + 1) (by omega)
          rw [show farK V p x (k + 1) = farK V p x k by
              unfold farK
              cases eb : bestO (fun q => !decide (q = p) && !decide (x < wayF V p q)) (fun q b => !decide (wayF V p q ≤ wayF V p b)) k with
              | none => rw [bestO_n eb, if_neg (by rw [decide_eq_true c34]; simp)]
              | some b => rw [bestO_s eb, if_neg (fun z => absurd z.1 (by rw [decide_eq_true c34]; simp))]] at i1
          exact i1
        · refine r_iload_n (pc := 37) X dX8_farthest_37 rfl ?_
          refine r_if_lt (pc := 38) X dX8_farthest_38 (tgt := 57) (by decide) (fun c38 => ?_) (fun c38 => ?_)
          · refine r_iload (pc := 57) X dX8_farthest_57 rfl ?_
            refine r_istore_n (pc := 59) X dX8_farthest_59 (Nat.le_of_ble_eq_true rfl) ?_
            refine r_iinc (pc := 60) X dX8_farthest_60 rfl (by first | exact nI_i1 _ | rfl) ?_
            refine r_goto (pc := 63) X dX8_farthest_63 (tgt := 11) (by decide) ?_
            have i1 := ih (k + 1) (by omega)
            have en := enc1_no (fun q hq => by have := bestO_lt hq; omega) c38
            rw [show farK V p x (k + 1) = some k from (bestO_n en).trans (if_pos (by rw [decide_eq_false c23, decide_eq_false c34]; rfl))] at i1
            exact i1
          · obtain ⟨b, eb⟩ := enc1_so c38
            have hb := bestO_lt eb
            rw [eb]
            refine r_aload_n (pc := 41) X dX8_farthest_41 rfl ?_
            refine r_iload_n (pc := 42) X dX8_farthest_42 rfl ?_
            refine r_iload (pc := 43) X dX8_farthest_43 rfl ?_
            refine r_c0_2P (pc := 45) X rfl dX8_farthest_45 tc_8_322 mm_X8_way (kc_80 C) rfl rfl (m_way (d + 2) C S hW hp hkp) (Nat.le_of_ble_eq_true rfl) ?_
            refine r_aload_n (pc := 48) X dX8_farthest_48 rfl ?_
            refine r_iload_n (pc := 49) X dX8_farthest_49 rfl ?_
            refine r_iload_n (pc := 50) X dX8_farthest_50 rfl ?_
            refine r_c0_2P (pc := 51) X rfl dX8_farthest_51 tc_8_322 mm_X8_way (kc_80 C) rfl rfl (m_way (d + 2) C S hW hp (show b < 6 by omega)) (Nat.le_of_ble_eq_true rfl) ?_
            refine r_icmp_le (pc := 54) X dX8_farthest_54 (tgt := 60) (by decide) (fun c54 => ?_) (fun c54 => ?_)
            · refine r_iinc (pc := 60) X dX8_farthest_60 rfl (by first | exact nI_i1 _ | rfl) ?_
              refine r_goto (pc := 63) X dX8_farthest_63 (tgt := 11) (by decide) ?_
              have i1 := ih (k + 1) (by omega)
              rw [show farK V p x (k + 1) = some b from (bestO_s eb).trans (if_neg (fun z => absurd z.2 (by rw [decide_eq_true c54]; decide)))] at i1
              exact i1
            · refine r_iload (pc := 57) X dX8_farthest_57 rfl ?_
              refine r_istore_n (pc := 59) X dX8_farthest_59 (Nat.le_of_ble_eq_true rfl) ?_
              refine r_iinc (pc := 60) X dX8_farthest_60 rfl (by first | exact nI_i1 _ | rfl) ?_
              refine r_goto (pc := 63) X dX8_farthest_63 (tgt := 11) (by decide) ?_
              have i1 := ih (k + 1) (by omega)
              rw [show farK V p x (k + 1) = some k from (bestO_s eb).trans (if_pos ⟨(by rw [decide_eq_false c23, decide_eq_false c34]; rfl), by rw [decide_eq_false c54]; rfl⟩)] at i1
              exact i1
set_option maxRecDepth 10000 in
set_option maxHeartbeats 4000000 in
theorem m_farthest : ∀ (d : Nat) {E : EV} {V : VT} {h : hp_T} {M : Mem} {B : Nat} (C : CS h) (S : MSt V M) (hE : MEv E M) (hW : WF B V) {p : Nat} (hp : p < 6), Ep (d + 3) nX8_farthest [.ref 80, .int (nI p)] (wi h M) (.int (enc1 (farK V p (reachF E V p) (vP V)))) := by
  intro d E V h M B C S hE hW p hp
  refine Ex.of mm_X8_farthest (Nat.le_of_ble_eq_true rfl) fun w κ X hk hnm => ?_
  refine r_iconst (pc := 0) (v := (-1)) X dX8_farthest_0 (by decide) ?_
  refine r_istore_n (pc := 1) X dX8_farthest_1 (Nat.le_of_ble_eq_true rfl) ?_
  refine r_aload_n (pc := 2) X dX8_farthest_2 rfl ?_
  refine r_iload_n (pc := 3) X dX8_farthest_3 rfl ?_
  refine r_c0_1P (pc := 4) X rfl dX8_farthest_4 tc_8_325 mm_X8_reach (kc_80 C) rfl rfl (m_reach d C S hE hW hp) (Nat.le_of_ble_eq_true rfl) ?_
  refine r_istore_n (pc := 7) X dX8_farthest_7 (Nat.le_of_ble_eq_true rfl) ?_
  refine r_iconst (pc := 8) (v := (nI 0)) X dX8_farthest_8 (by decide) ?_
  refine r_istore (pc := 9) X dX8_farthest_9 (Nat.le_of_ble_eq_true rfl) ?_
  exact lm_far d C S hE hW hp X ⟨⟨rfl, rfl⟩, rfl⟩ (vP V) 0 (by omega)
theorem tgt_far1 {E : EV} {V : VT} {p : Nat} (hk : V 1 p = nI 2 ∨ V 1 p = nI 5) : targetF E V p = match farK V p (reachF E V p) (vP V) with
    | none => nearK V p (vP V)
    | some q => some q := if_pos hk
set_option maxRecDepth 10000 in
set_option maxHeartbeats 4000000 in
theorem m_toWhom : ∀ (d : Nat) {E : EV} {V : VT} {h : hp_T} {M : Mem} {B : Nat} (C : CS h) (S : MSt V M) (hE : MEv E M) (hW : WF B V) {p : Nat} (hp : p < 6), Ep (d + 4) nX8_toWhom [.ref 80, .int (nI p)] (wi h M) (.int (enc1 (targetF E V p))) := by
  intro d E V h M B C S hE hW p hp
  have h6 := hW.2.1
  refine Ex.of mm_X8_toWhom (Nat.le_of_ble_eq_true rfl) fun w κ X hk hnm => ?_
  refine r_aload_n (pc := 0) X dX8_toWhom_0 rfl ?_
  refine r_getr (pc := 1) X dX8_toWhom_1 tf_8_25 rfl (kc_80 C) (rc_80_5 C) ?_
  refine r_iload_n (pc := 4) X dX8_toWhom_4 rfl ?_
  refine r_ialdW (pc := 5) X dX8_toWhom_5 (kc_81 C) rfl hp (by omega) (S.a1 p) ?_
  refine sw_X8_toWhom_6 X (fun z6 => ?_) (fun z6 => ?_) (fun z6 => ?_) (fun z6 => ?_) (fun z6 => ?_)
  · refine r_aload_n (pc := 40) X dX8_toWhom_40 rfl ?_
    refine r_iload_n (pc := 41) X dX8_toWhom_41 rfl ?_
    refine r_c0_1P (pc := 42) X rfl dX8_toWhom_42 tc_8_328 mm_X8_farthest (kc_80 C) rfl rfl (m_farthest d C S hE hW hp) (Nat.le_of_ble_eq_true rfl) ?_
    refine r_istore_n (pc := 45) X dX8_toWhom_45 (Nat.le_of_ble_eq_true rfl) ?_
    refine r_iload_n (pc := 46) X dX8_toWhom_46 rfl ?_
    refine r_if_ge (pc := 47) X dX8_toWhom_47 (tgt := 58) (by decide) (fun c47 => ?_) (fun c47 => ?_)
    · refine r_iload_n (pc := 58) X dX8_toWhom_58 rfl ?_
      refine r_iret (pc := 59) X dX8_toWhom_59 rfl rfl ?_
      exact ⟨⟨by rw [tgt_far1 (by first | exact Or.inl z6 | exact Or.inr z6)]; obtain ⟨q, eq⟩ := enc1_so (Int32.not_lt.mpr c47); rw [eq], rfl⟩, rfl⟩
    · refine r_aload_n (pc := 50) X dX8_toWhom_50 rfl ?_
      refine r_iload_n (pc := 51) X dX8_toWhom_51 rfl ?_
      refine r_c0_1P (pc := 52) X rfl dX8_toWhom_52 tc_8_331 mm_X8_nearest (kc_80 C) rfl rfl (m_nearest d C S hE hW hp) (Nat.le_of_ble_eq_true rfl) ?_
      refine r_goto (pc := 55) X dX8_toWhom_55 (tgt := 59) (by decide) ?_
      refine r_iret (pc := 59) X dX8_toWhom_59 rfl rfl ?_
      exact ⟨⟨by rw [tgt_far1 (by first | exact Or.inl z6 | exact Or.inr z6)]; rw [enc1_no (fun q hq => by have := bestO_lt hq; omega) (Int32.not_le.mp c47)], rfl⟩, rfl⟩
  · refine r_aload_n (pc := 60) X dX8_toWhom_60 rfl ?_
    refine r_iload_n (pc := 61) X dX8_toWhom_61 rfl ?_
    refine r_c0_1P (pc := 62) X rfl dX8_toWhom_62 tc_8_334 mm_X8_hopeful (kc_80 C) rfl rfl (m_hopeful d C S hE hW hp) (Nat.le_of_ble_eq_true rfl) ?_
    refine r_iret (pc := 65) X dX8_toWhom_65 rfl rfl ?_
    exact ⟨⟨by rw [tgt_hope (by first | exact Or.inl z6 | exact Or.inr z6)], rfl⟩, rfl⟩
  · refine r_aload_n (pc := 40) X dX8_toWhom_40 rfl ?_
    refine r_iload_n (pc := 41) X dX8_toWhom_41 rfl ?_
    refine r_c0_1P (pc := 42) X rfl dX8_toWhom_42 tc_8_328 mm_X8_farthest (kc_80 C) rfl rfl (m_farthest d C S hE hW hp) (Nat.le_of_ble_eq_true rfl) ?_
    refine r_istore_n (pc := 45) X dX8_toWhom_45 (Nat.le_of_ble_eq_true rfl) ?_
    refine r_iload_n (pc := 46) X dX8_toWhom_46 rfl ?_
    refine r_if_ge (pc := 47) X dX8_toWhom_47 (tgt := 58) (by decide) (fun c47 => ?_) (fun c47 => ?_)
    · refine r_iload_n (pc := 58) X dX8_toWhom_58 rfl ?_
      refine r_iret (pc := 59) X dX8_toWhom_59 rfl rfl ?_
      exact ⟨⟨by rw [tgt_far1 (by first | exact Or.inl z6 | exact Or.inr z6)]; obtain ⟨q, eq⟩ := enc1_so (Int32.not_lt.mpr c47); rw [eq], rfl⟩, rfl⟩
    · refine r_aload_n (pc := 50) X dX8_toWhom_50 rfl ?_
      refine r_iload_n (pc := 51) X dX8_toWhom_51 rfl ?_
      refine r_c0_1P (pc := 52) X rfl dX8_toWhom_52 tc_8_331 mm_X8_nearest (kc_80 C) rfl rfl (m_nearest d C S hE hW hp) (Nat.le_of_ble_eq_true rfl) ?_
      refine r_goto (pc := 55) X dX8_toWhom_55 (tgt := 59) (by decide) ?_
      refine r_iret (pc := 59) X dX8_toWhom_59 rfl rfl ?_
      exact ⟨⟨by rw [tgt_far1 (by first | exact Or.inl z6 | exact Or.inr z6)]; rw [enc1_no (fun q hq => by have := bestO_lt hq; omega) (Int32.not_le.mp c47)], rfl⟩, rfl⟩
  · refine r_aload_n (pc := 60) X dX8_toWhom_60 rfl ?_
    refine r_iload_n (pc := 61) X dX8_toWhom_61 rfl ?_
    refine r_c0_1P (pc := 62) X rfl dX8_toWhom_62 tc_8_334 mm_X8_hopeful (kc_80 C) rfl rfl (m_hopeful d C S hE hW hp) (Nat.le_of_ble_eq_true rfl) ?_
    refine r_iret (pc := 65) X dX8_toWhom_65 rfl rfl ?_
    exact ⟨⟨by rw [tgt_hope (by first | exact Or.inl z6 | exact Or.inr z6)], rfl⟩, rfl⟩
  · refine r_aload_n (pc := 66) X dX8_toWhom_66 rfl ?_
    refine r_iload_n (pc := 67) X dX8_toWhom_67 rfl ?_
    refine r_c0_1P (pc := 68) X rfl dX8_toWhom_68 tc_8_331 mm_X8_nearest (kc_80 C) rfl rfl (m_nearest d C S hE hW hp) (Nat.le_of_ble_eq_true rfl) ?_
    refine r_iret (pc := 71) X dX8_toWhom_71 rfl rfl ?_
    exact ⟨⟨by rw [tgt_near (by simp (decide := true) [z6])], rfl⟩, rfl⟩
