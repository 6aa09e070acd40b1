/-! the reference reads its text -/
def MtS (T : TX) (p : Nat) (M : Mem) : Prop := (M 80 13 = nI T.1 ∧ T.1 ≤ 100 ∧ ∀ i, i < T.1 → M 87 i = nI (T.2 i) ∧ T.2 i ≤ 127) ∧ M 80 14 = nI p ∧ p ≤ T.1
def MtK (M M1 : Mem) : Prop := (∀ b, b ≠ 80 → M1 b = M b) ∧ ∀ j, j ≠ 14 → j ≠ 15 → M1 80 j = M 80 j
theorem MtK.rf {M : Mem} : MtK M M := ⟨fun _ _ => rfl, fun _ _ _ => rfl⟩
theorem MtK.tr {M M1 M2 : Mem} (a : MtK M M1) (b : MtK M1 M2) : MtK M M2 := ⟨fun q h1 => (b.1 q h1).trans (a.1 q h1), fun k h1 h2 => (b.2 k h1 h2).trans (a.2 k h1 h2)⟩
theorem MtK.u {M : Mem} {j : Nat} {x : Int32} (hj : j = 14 ∨ j = 15) : MtK M (mU M 80 (upd (M 80) j x)) := ⟨fun b h1 => mU_ne h1, fun k h1 h2 => by rw [mU_eq, pk_un (by omega)]⟩
section S47
variable {T : TX} {p : Nat} {M : Mem}
theorem MtS.fe (S : MtS T p M) : M 80 13 = nI T.1 := S.1.1
theorem MtS.n100 (S : MtS T p M) : T.1 ≤ 100 := S.1.2.1
theorem MtS.tx (S : MtS T p M) (h : p < T.1) : M 87 p = nI (T.2 p) := (S.1.2.2 p h).1
theorem MtS.t7 (S : MtS T p M) (h : p < T.1) : T.2 p ≤ 127 := (S.1.2.2 p h).2
theorem MtS.pl (S : MtS T p M) : M 80 14 = nI p := S.2.1
theorem MtS.ple (S : MtS T p M) : p ≤ T.1 := S.2.2
theorem MtS.adv (S : MtS T p M) (h : p < T.1) : MtS T (p + 1) (mU M 80 (upd (M 80) 14 (nI p + nI 1))) := by
  refine ⟨⟨?_, S.n100, fun i hi => ?_⟩, ?_, h⟩
  · rw [mU_eq, pk_un (by omega)]; exact S.fe
  · rw [mU_ne (by omega)]; exact S.1.2.2 i hi
  · rw [mU_eq, pk_us]; exact nI_add _ _
theorem MtS.kept {M1 : Mem} (S : MtS T p M) (h3 : M1 80 13 = M 80 13) (h4 : M1 80 14 = M 80 14) (h7 : M1 87 = M 87) : MtS T p M1 :=
  ⟨⟨h3.trans S.fe, S.n100, fun i hi => by rw [h7]; exact S.1.2.2 i hi⟩, h4.trans S.pl, S.ple⟩
theorem MtS.num (S : MtS T p M) {x : Int32} : MtS T p (mU M 80 (upd (M 80) 15 x)) :=
  S.kept (by rw [mU_eq, pk_un (by omega)]) (by rw [mU_eq, pk_un (by omega)]) (mU_ne (by omega))
theorem MtS.ah (S : MtS T p M) {k : Nat} (hk : k < 128) : aheadI T p = nI k ↔ aheadN T p = k := by
  unfold aheadI aheadN
  by_cases h : p < T.1
  · rw [if_pos h, if_pos h, nI_eq (by have := S.t7 h; omega) (by omega)]
  · rw [if_neg h, if_neg h]
    constructor
    · intro e
      have e2 := congrArg Int32.toInt e
      rw [nI_toInt (by omega)] at e2
      have : (-1 : Int32).toInt = -1 := by decide
      omega
    · intro e
      omega
end S47
theorem dig_n : ∀ k, k < 128 → inF (nI k) (nI 48) (nI 57) = (decide (48 ≤ k) && decide (k ≤ 57)) := by decide +kernel
theorem dig_m : inF (-1) (nI 48) (nI 57) = false := by decide
theorem MtS.dg {T : TX} {p : Nat} {M : Mem} (S : MtS T p M) : digN T p = inF (aheadI T p) (nI 48) (nI 57) := by
  unfold digN aheadI aheadN
  by_cases h : p < T.1
  · rw [if_pos h, if_pos h, dig_n _ (by have := S.t7 h; omega)]
  · rw [if_neg h, if_neg h, dig_m]
    rfl
theorem MtS.dv {T : TX} {p : Nat} {M : Mem} (S : MtS T p M) (hd : digN T p = true) (x : Nat) : p < T.1 ∧ nI 10 * nI x + aheadI T p - nI 48 = nI (10 * x + (aheadN T p - 48)) := by
  have h2 := hd
  unfold digN at h2
  rw [Bool.and_eq_true, decide_eq_true_eq, decide_eq_true_eq] at h2
  have hp : p < T.1 := aheadN_lt rfl (by omega)
  have e : aheadI T p = nI (aheadN T p) := by unfold aheadI aheadN; rw [if_pos hp, if_pos hp]
  refine ⟨hp, ?_⟩
  rw [e, pk_mul, nI_add, nI_subn (by omega)]
  congr 1
  omega
def plI (x : Int32) : Int32 := if x = nI 112 then nI 0 else if x = nI 107 then nI 1 else if x = nI 100 then nI 2 else if x = nI 104 then nI 3 else if x = nI 119 then nI 4 else if x = nI 115 then nI 5 else -1
theorem pl_n : ∀ k, k < 128 → plI (nI k) = if letN k < 6 then nI (letN k) else -1 := by decide +kernel
theorem pl_m : plI (-1) = -1 := by decide
theorem pl_112 : plI (nI 112) = nI 0 := by decide
theorem pl_107 : plI (nI 107) = nI 1 := by decide
theorem pl_100 : plI (nI 100) = nI 2 := by decide
theorem pl_104 : plI (nI 104) = nI 3 := by decide
theorem pl_119 : plI (nI 119) = nI 4 := by decide
theorem pl_115 : plI (nI 115) = nI 5 := by decide
theorem pl_d {x : Int32} (h : ¬ x = nI 100 ∧ ¬ x = nI 104 ∧ ¬ x = nI 107 ∧ ¬ x = nI 112 ∧ ¬ x = nI 115 ∧ ¬ x = nI 119) : plI x = -1 := by
  unfold plI
  rw [if_neg h.2.2.2.1, if_neg h.2.2.1, if_neg h.1, if_neg h.2.1, if_neg h.2.2.2.2.2, if_neg h.2.2.2.2.1]
theorem MtS.pla {T : TX} {p : Nat} {M : Mem} (S : MtS T p M) : plI (aheadI T p) = if letN (aheadN T p) < 6 then nI (letN (aheadN T p)) else -1 := by
  unfold aheadI aheadN
  by_cases h : p < T.1
  · rw [if_pos h, if_pos h, pl_n _ (by have := S.t7 h; omega)]
  · rw [if_neg h, if_neg h, pl_m]
    decide
set_option maxRecDepth 10000 in
set_option maxHeartbeats 4000000 in
theorem m_next : ∀ (d : Nat) {h : hp_T} {M : Mem} {T : TX} {p : Nat} (C : CS h) (S : MtS T p M), Ep d nX8_next [.ref 80] (wi h M) (.int (aheadI T p)) := by
  intro d h M T p C S
  have n1 := S.n100
  have n2 := S.ple
  refine Ex.of mm_X8_next (Nat.le_of_ble_eq_true rfl) fun w κ X hk hnm => ?_
  refine r_aload_n (pc := 0) X dX8_next_0 rfl ?_
  refine r_getiW (pc := 1) X dX8_next_1 tf_8_53 rfl (kc_80 C) S.pl ?_
  refine r_aload_n (pc := 4) X dX8_next_4 rfl ?_
  refine r_getiW (pc := 5) X dX8_next_5 tf_8_50 rfl (kc_80 C) S.fe ?_
  refine r_icmp_geN (pc := 8) X dX8_next_8 (tgt := 23) (by decide) (by omega) (by omega) (fun c8 => ?_) (fun c8 => ?_)
  · refine r_iconst (pc := 23) (v := (-1)) X dX8_next_23 (by decide) ?_
    refine r_iret (pc := 24) X dX8_next_24 rfl rfl ?_
    exact ⟨⟨by rw [aheadI, if_neg (by omega)], rfl⟩, rfl⟩
  · refine r_aload_n (pc := 11) X dX8_next_11 rfl ?_
    refine r_getr (pc := 12) X dX8_next_12 tf_8_59 rfl (kc_80 C) (rc_80_16 C) ?_
    refine r_aload_n (pc := 15) X dX8_next_15 rfl ?_
    refine r_getiW (pc := 16) X dX8_next_16 tf_8_53 rfl (kc_80 C) S.pl ?_
    refine r_ialdW (pc := 19) X dX8_next_19 (kc_87 C) rfl (show p < 100 by omega) (by omega) (S.tx (by omega)) ?_
    refine r_goto (pc := 20) X dX8_next_20 (tgt := 24) (by decide) ?_
    refine r_iret (pc := 24) X dX8_next_24 rfl rfl ?_
    exact ⟨⟨by rw [aheadI, if_pos (by omega)], rfl⟩, rfl⟩
set_option maxRecDepth 10000 in
set_option maxHeartbeats 4000000 in
theorem m_takes : ∀ (d : Nat) {h : hp_T} {M : Mem} {T : TX} {p : Nat} (C : CS h) (S : MtS T p M) {k : Nat} (k7 : k < 128), Ei (d + 1) nX8_takes [.ref 80, .int (nI k)] (wi h M) (fun r M1 => r = b2 (takeF T k p []).1 ∧ MtS T (takeF T k p []).2.1 M1 ∧ MtK M M1) := by
  intro d h M T p C S k k7
  have n1 := S.n100
  have n2 := S.ple
  refine Ex.of mm_X8_takes (Nat.le_of_ble_eq_true rfl) fun w κ X hk hnm => ?_
  refine r_aload_n (pc := 0) X dX8_takes_0 rfl ?_
  refine r_c0_0P (pc := 1) X rfl dX8_takes_1 tc_8_258 mm_X8_next (kc_80 C) rfl rfl (m_next d C S) (Nat.le_of_ble_eq_true rfl) ?_
  refine r_iload_n (pc := 4) X dX8_takes_4 rfl ?_
  refine r_icmp_eq (pc := 5) X dX8_takes_5 (tgt := 10) (by decide) (fun c5 => ?_) (fun c5 => ?_)
  · refine r_aload_n (pc := 10) X dX8_takes_10 rfl ?_
    refine r_dup (pc := 11) X dX8_takes_11 rfl ?_
    refine r_getiW (pc := 12) X dX8_takes_12 tf_8_53 rfl (kc_80 C) S.pl ?_
    refine r_iconst (pc := 15) (v := (nI 1)) X dX8_takes_15 (by decide) ?_
    refine r_iadd (pc := 16) X dX8_takes_16 ?_
    refine r_putiW (pc := 17) X dX8_takes_17 tf_8_53 rfl (Or.inl rfl) (kc_80 C) ⟨rfl, rfl⟩ ?_
    refine r_iconst (pc := 20) (v := (nI 1)) X dX8_takes_20 (by decide) ?_
    refine r_iret (pc := 21) X dX8_takes_21 rfl rfl ?_
    have e0 : aheadN T p = k := (S.ah k7).mp c5
    have e : takeF T k p [] = (true, p + 1, []) := if_pos e0
    rw [e]
    exact ⟨⟨_, _, rfl, rfl, rfl, S.adv (aheadN_lt e0 k7), MtK.u (Or.inl rfl)⟩, rfl⟩
  · refine r_iconst (pc := 8) (v := (nI 0)) X dX8_takes_8 (by decide) ?_
    refine r_iret (pc := 9) X dX8_takes_9 rfl rfl ?_
    have e : takeF T k p [] = (false, p, []) := if_neg (fun z => c5 ((S.ah k7).mpr z))
    rw [e]
    exact ⟨⟨_, M, rfl, rfl, rfl, S, MtK.rf⟩, rfl⟩
set_option maxRecDepth 10000 in
set_option maxHeartbeats 4000000 in
theorem m_digit : ∀ (d : Nat) {h : hp_T} {M : Mem} {T : TX} {p : Nat} (C : CS h) (S : MtS T p M), Ep (d + 1) nX8_isDigit [.ref 80] (wi h M) (.int (b2 (digN T p))) := by
  intro d h M T p C S
  have n1 := S.n100
  have n2 := S.ple
  rw [S.dg]
  refine Ex.of mm_X8_isDigit (Nat.le_of_ble_eq_true rfl) fun w κ X hk hnm => ?_
  refine r_aload_n (pc := 0) X dX8_isDigit_0 rfl ?_
  refine r_aload_n (pc := 1) X dX8_isDigit_1 rfl ?_
  refine r_c0_0P (pc := 2) X rfl dX8_isDigit_2 tc_8_258 mm_X8_next (kc_80 C) rfl rfl (m_next d C S) (Nat.le_of_ble_eq_true rfl) ?_
  refine r_bipush (pc := 5) (v := (nI 48)) X dX8_isDigit_5 (by decide) ?_
  refine r_bipush (pc := 7) (v := (nI 57)) X dX8_isDigit_7 (by decide) ?_
  refine r_c0_3P (pc := 9) X rfl dX8_isDigit_9 tc_8_236 mm_X8_in (kc_80 C) rfl rfl (m_in d _ _ _) (Nat.le_of_ble_eq_true rfl) ?_
  refine r_iret (pc := 12) X dX8_isDigit_12 rfl (b2_nar _) ?_
  exact ⟨⟨rfl, rfl⟩, rfl⟩
set_option maxRecDepth 10000 in
set_option maxHeartbeats 4000000 in
theorem m_place : ∀ (d : Nat) {h : hp_T} (x : Int32), Ep d nX8_place [.ref 80, .int x] h (.int (plI x)) := by
  intro d h x
  refine Ex.of mm_X8_place (Nat.le_of_ble_eq_true rfl) fun w κ X hk hnm => ?_
  refine r_iload_n (pc := 0) X dX8_place_0 rfl ?_
  refine sw_X8_place_1 X (fun z1 => ?_) (fun z1 => ?_) (fun z1 => ?_) (fun z1 => ?_) (fun z1 => ?_) (fun z1 => ?_) (fun z1 => ?_)
  · refine r_iconst (pc := 100) (v := (nI 2)) X dX8_place_100 (by decide) ?_
    refine r_iret (pc := 101) X dX8_place_101 rfl rfl ?_
    exact ⟨⟨(congrArg (fun y => some (Value.int y)) ((congrArg plI z1).trans pl_100)).symm, rfl⟩, rfl⟩
  · refine r_iconst (pc := 102) (v := (nI 3)) X dX8_place_102 (by decide) ?_
    refine r_iret (pc := 103) X dX8_place_103 rfl rfl ?_
    exact ⟨⟨(congrArg (fun y => some (Value.int y)) ((congrArg plI z1).trans pl_104)).symm, rfl⟩, rfl⟩
  · refine r_iconst (pc := 98) (v := (nI 1)) X dX8_place_98 (by decide) ?_
    refine r_iret (pc := 99) X dX8_place_99 rfl rfl ?_
    exact ⟨⟨(congrArg (fun y => some (Value.int y)) ((congrArg plI z1).trans pl_107)).symm, rfl⟩, rfl⟩
  · refine r_iconst (pc := 96) (v := (nI 0)) X dX8_place_96 (by decide) ?_
    refine r_iret (pc := 97) X dX8_place_97 rfl rfl ?_
    exact ⟨⟨(congrArg (fun y => some (Value.int y)) ((congrArg plI z1).trans pl_112)).symm, rfl⟩, rfl⟩
  · refine r_iconst (pc := 106) (v := (nI 5)) X dX8_place_106 (by decide) ?_
    refine r_iret (pc := 107) X dX8_place_107 rfl rfl ?_
    exact ⟨⟨(congrArg (fun y => some (Value.int y)) ((congrArg plI z1).trans pl_115)).symm, rfl⟩, rfl⟩
  · refine r_iconst (pc := 104) (v := (nI 4)) X dX8_place_104 (by decide) ?_
    refine r_iret (pc := 105) X dX8_place_105 rfl rfl ?_
    exact ⟨⟨(congrArg (fun y => some (Value.int y)) ((congrArg plI z1).trans pl_119)).symm, rfl⟩, rfl⟩
  · refine r_iconst (pc := 108) (v := (-1)) X dX8_place_108 (by decide) ?_
    refine r_iret (pc := 109) X dX8_place_109 rfl rfl ?_
    exact ⟨⟨(congrArg (fun y => some (Value.int y)) (pl_d z1)).symm, rfl⟩, rfl⟩
set_option maxRecDepth 10000 in
set_option maxHeartbeats 4000000 in
theorem l_mnum2 : ∀ (d : Nat) {h : hp_T} {M : Mem} {w : wc_T} {κ : cx_T} {Φ : Option Value → hp_T → Prop} (X : CX w κ (d + 2) 8 cX8_takesNumber 2 (some .boolean) Φ) (hΦ : Φ (some (.int (nI 1))) (wi h M)), GG w κ 16 [some (.ref 80), some (.int (nI 2))] [] (wi h M) := by
  intro d h M w κ Φ X hΦ
  refine r_iload_n (pc := 16) X dX8_takesNumber_16 rfl ?_
  refine r_iconst (pc := 17) (v := (nI 2)) X dX8_takesNumber_17 (by decide) ?_
  refine r_icmp_geN (pc := 18) X dX8_takesNumber_18 (tgt := 63) (by decide) (by omega) (by omega) (fun c18 => ?_) (fun c18 => ?_)
  · refine r_iconst (pc := 63) (v := (nI 1)) X dX8_takesNumber_63 (by decide) ?_
    refine r_iret (pc := 64) X dX8_takesNumber_64 rfl rfl ?_
    exact hΦ
  · exact absurd (Nat.le_refl _) c18
set_option maxRecDepth 10000 in
set_option maxHeartbeats 4000000 in
theorem l_mnum1 : ∀ (d : Nat) {h : hp_T} {M : Mem} {T : TX} {p : Nat} (C : CS h) (S : MtS T p M) {i : Nat} (hi : i < 2) {x : Nat} (hx : M 80 15 = nI x) {w : wc_T} {κ : cx_T} {Φ : Option Value → hp_T → Prop} (X : CX w κ (d + 2) 8 cX8_takesNumber 2 (some .boolean) Φ) (hΦ : digN T p = false → Φ (some (.int (nI 1))) (wi h M)) (hG : digN T p = true → ∀ M1, MtS T (p + 1) M1 → MtK M M1 → M1 80 15 = nI (10 * x + (aheadN T p - 48)) → GG w κ 16 [some (.ref 80), some (.int (nI (i + 1)))] [] (wi h M1)), GG w κ 16 [some (.ref 80), some (.int (nI i))] [] (wi h M) := by
  intro d h M T p C S i hi x hx w κ Φ X hΦ hG
  have S1 := S.num (x := nI 10 * nI x + aheadI T p - nI 48)
  refine r_iload_n (pc := 16) X dX8_takesNumber_16 rfl ?_
  refine r_iconst (pc := 17) (v := (nI 2)) X dX8_takesNumber_17 (by decide) ?_
  refine r_icmp_geN (pc := 18) X dX8_takesNumber_18 (tgt := 63) (by decide) (by omega) (by omega) (fun c18 => ?_) (fun c18 => ?_)
  · exact absurd c18 (by omega)
  · refine r_aload_n (pc := 21) X dX8_takesNumber_21 rfl ?_
    refine r_c0_0P (pc := 22) X rfl dX8_takesNumber_22 tc_8_265 mm_X8_isDigit (kc_80 C) rfl rfl (m_digit d C S) (Nat.le_of_ble_eq_true rfl) ?_
    refine r_if_eqB (pc := 25) X dX8_takesNumber_25 (tgt := 63) (by decide) (fun c25 => ?_) (fun c25 => ?_)
    · refine r_iconst (pc := 63) (v := (nI 1)) X dX8_takesNumber_63 (by decide) ?_
      refine r_iret (pc := 64) X dX8_takesNumber_64 rfl rfl ?_
      exact hΦ c25
    · refine r_aload_n (pc := 28) X dX8_takesNumber_28 rfl ?_
      refine r_bipush (pc := 29) (v := (nI 10)) X dX8_takesNumber_29 (by decide) ?_
      refine r_aload_n (pc := 31) X dX8_takesNumber_31 rfl ?_
      refine r_getiW (pc := 32) X dX8_takesNumber_32 tf_8_56 rfl (kc_80 C) hx ?_
      refine r_imul (pc := 35) X dX8_takesNumber_35 ?_
      refine r_aload_n (pc := 36) X dX8_takesNumber_36 rfl ?_
      refine r_c0_0P (pc := 37) X rfl dX8_takesNumber_37 tc_8_258 mm_X8_next (kc_80 C) rfl rfl (m_next (d + 1) C S) (Nat.le_of_ble_eq_true rfl) ?_
      refine r_iadd (pc := 40) X dX8_takesNumber_40 ?_
      refine r_bipush (pc := 41) (v := (nI 48)) X dX8_takesNumber_41 (by decide) ?_
      refine r_isub (pc := 43) X dX8_takesNumber_43 ?_
      refine r_putiW (pc := 44) X dX8_takesNumber_44 tf_8_56 rfl (Or.inl rfl) (kc_80 C) ⟨rfl, rfl⟩ ?_
      refine r_aload_n (pc := 47) X dX8_takesNumber_47 rfl ?_
      refine r_dup (pc := 48) X dX8_takesNumber_48 rfl ?_
      refine r_getiW (pc := 49) X dX8_takesNumber_49 tf_8_53 rfl (kc_80 C) S1.pl ?_
      refine r_iconst (pc := 52) (v := (nI 1)) X dX8_takesNumber_52 (by decide) ?_
      refine r_iadd (pc := 53) X dX8_takesNumber_53 ?_
      refine r_putiW (pc := 54) X dX8_takesNumber_54 tf_8_53 rfl (Or.inl rfl) (kc_80 C) ⟨rfl, rfl⟩ ?_
      refine r_iinc (pc := 57) X dX8_takesNumber_57 rfl (by first | exact nI_i1 _ | rfl) ?_
      refine r_goto (pc := 60) X dX8_takesNumber_60 (tgt := 16) (by decide) ?_
      exact hG c25 _ (S1.adv (S.dv c25 x).1) ((MtK.u (Or.inr rfl)).tr (MtK.u (Or.inl rfl))) (by rw [mU_eq, pk_un (by omega), mU_eq, pk_us]; exact (S.dv c25 x).2)
set_option maxRecDepth 10000 in
set_option maxHeartbeats 4000000 in
theorem m_number : ∀ (d : Nat) {h : hp_T} {M : Mem} {T : TX} {p : Nat} (C : CS h) (S : MtS T p M), Ei (d + 2) nX8_takesNumber [.ref 80] (wi h M) (fun r M1 => r = b2 (numF T p).1 ∧ MtS T (numF T p).2.1 M1 ∧ MtK M M1 ∧ ((numF T p).1 = true → M1 80 15 = nI (numF T p).2.2)) := by
  intro d h M T p C S
  have n1 := S.n100
  have n2 := S.ple
  refine Ex.of mm_X8_takesNumber (Nat.le_of_ble_eq_true rfl) fun w κ X hk hnm => ?_
  refine r_aload_n (pc := 0) X dX8_takesNumber_0 rfl ?_
  refine r_c0_0P (pc := 1) X rfl dX8_takesNumber_1 tc_8_265 mm_X8_isDigit (kc_80 C) rfl rfl (m_digit d C S) (Nat.le_of_ble_eq_true rfl) ?_
  refine r_if_neB (pc := 4) X dX8_takesNumber_4 (tgt := 9) (by decide) (fun c4 => ?_) (fun c4 => ?_)
  · refine r_aload_n (pc := 9) X dX8_takesNumber_9 rfl ?_
    refine r_iconst (pc := 10) (v := (nI 0)) X dX8_takesNumber_10 (by decide) ?_
    refine r_putiW (pc := 11) X dX8_takesNumber_11 tf_8_56 rfl (Or.inl rfl) (kc_80 C) ⟨rfl, rfl⟩ ?_
    refine r_iconst (pc := 14) (v := (nI 0)) X dX8_takesNumber_14 (by decide) ?_
    refine r_istore_n (pc := 15) X dX8_takesNumber_15 (Nat.le_of_ble_eq_true rfl) ?_
    refine l_mnum1 d C (S.num (x := nI 0)) (i := 0) (by omega) (x := 0) (by rw [mU_eq, pk_us]) X (fun z => absurd (c4.symm.trans z) (by decide)) (fun _ M1 S1 K1 D1 => ?_)
    refine l_mnum1 d C S1 (i := 1) (by omega) D1 X (fun z => ?_) (fun z M2 S2 K2 D2 => ?_)
    · have e : numF T p = (true, p + 1, aheadN T p - 48) := by unfold numF; rw [if_pos c4, if_neg (by rw [z]; decide)]
      rw [e]
      exact ⟨⟨_, M1, rfl, rfl, rfl, S1, (MtK.u (Or.inr rfl)).tr K1, fun _ => D1.trans (by congr 1; show 10 * 0 + (aheadN T p - 48) = aheadN T p - 48; omega)⟩, rfl⟩
    · refine l_mnum2 d X ?_
      have e : numF T p = (true, p + 2, 10 * (aheadN T p - 48) + (aheadN T (p + 1) - 48)) := by unfold numF; rw [if_pos c4, if_pos z]
      rw [e]
      exact ⟨⟨_, M2, rfl, rfl, rfl, S2, ((MtK.u (Or.inr rfl)).tr K1).tr K2, fun _ => D2.trans (by congr 1; show 10 * (10 * 0 + (aheadN T p - 48)) + (aheadN T (p + 1) - 48) = 10 * (aheadN T p - 48) + (aheadN T (p + 1) - 48); omega)⟩, rfl⟩
  · refine r_iconst (pc := 7) (v := (nI 0)) X dX8_takesNumber_7 (by decide) ?_
    refine r_iret (pc := 8) X dX8_takesNumber_8 rfl rfl ?_
    have e : numF T p = (false, p, 0) := if_neg (by rw [c4]; decide)
    rw [e]
    exact ⟨⟨_, M, rfl, rfl, rfl, S, MtK.rf, fun z => absurd (show false = true from z) (by decide)⟩, rfl⟩
