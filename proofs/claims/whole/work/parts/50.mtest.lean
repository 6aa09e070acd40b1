/-! the reference reads one test -/
theorem PSt.go {T : TX} {G : GP} {p p1 : Nat} {cs W : List Nat} {M M1 : Mem} (S : PSt T G p cs W M) (K : MtK M M1) (N : MtS T p1 M1) (h : p ≤ p1) : PSt T G p1 cs W M1 := by
  have n1 := S.n
  have k := S.k
  exact ⟨N, ⟨(K.2 24 (by omega) (by omega)).trans S.ss, (K.2 25 (by omega) (by omega)).trans S.wl, (K.2 26 (by omega) (by omega)).trans S.op⟩, ⟨by omega, S.2.2.1.2⟩, fun i hi => by rw [K.1 93 (by omega)]; exact S.2.2.2.1 i hi, S.w.kept (fun i _ => by rw [K.1 94 (by omega)]),
    ⟨fun b a1 a2 a3 a4 => (K.1 b a1).trans (k.1 b a1 a2 a3 a4), fun j a1 a2 a3 a4 a5 => (K.2 j a1 a2).trans (k.2.1 j a1 a2 a3 a4 a5), fun i hi => by rw [K.1 93 (by omega)]; exact k.2.2.1 i hi, fun i hi => by rw [K.1 92 (by omega)]; exact k.2.2.2 i hi⟩⟩
theorem let_lt {T : TX} {p : Nat} (h : letN (aheadN T p) < 6) : p < T.1 := by
  unfold aheadN at h
  by_cases z : p < T.1
  · exact z
  · rw [if_neg z] at h
    exact absurd h (by decide)
theorem l6_0 : ∀ l, l < 6 → 0 ≤ nI l := by decide
theorem rl_n : ∀ k, k < 128 → inF (nI k) (nI 60) (nI 62) = (decide (60 ≤ k) && decide (k ≤ 62)) := by decide +kernel
theorem rl_m : inF (-1) (nI 60) (nI 62) = false := by decide
theorem MtS.rl {T : TX} {p : Nat} {M : Mem} (S : MtS T p M) : inF (aheadI T p) (nI 60) (nI 62) = (decide (60 ≤ aheadN T p) && decide (aheadN T p ≤ 62)) := by
  unfold aheadI aheadN
  by_cases h : p < T.1
  · rw [if_pos h, if_pos h, rl_n _ (by have := S.t7 h; omega)]
  · rw [if_neg h, if_neg h, rl_m]
    rfl
theorem tr_test : ∀ r, r < 3 → ∀ l, l < 6 → ∀ v, v < 100 → nI 1000 * nI l + nI 100 * nI r + nI v = trF (r * 65536 + l * 256 + v) := by decide +kernel
/-- what a piece of the parser leaves -/
def TsQ (T : TX) (G : GP) (W : List Nat) (R : PR) (r : Int32) (M1 : Mem) : Prop := r = b2 R.1 ∧ (R.1 = true → PSt T G R.2.1 (stC W R.2.2) (stW W) M1) ∧ (R.1 = false → MtS T R.2.1 M1 ∧ PK G M1)
theorem TsQ.f {T : TX} {G : GP} {W cs : List Nat} {p p1 : Nat} {M1 : Mem} {R : PR} (e : R = (false, p1, cs)) (S : PSt T G p cs W M1) (hp : p = p1) : TsQ T G W R (nI 0) M1 := by
  subst e
  subst hp
  exact ⟨rfl, fun z => absurd (show false = true from z) (by decide), fun _ => ⟨S.m, S.k⟩⟩
set_option maxRecDepth 10000 in
set_option maxHeartbeats 4000000 in
theorem m_test : ∀ (d : Nat) {h : hp_T} {M : Mem} {T : TX} {G : GP} {p : Nat} {cs W : List Nat} (C : CS h) (S : PSt T G p cs W M), Ei (d + 3) nX8_takesTest [.ref 80] (wi h M) (fun r M1 => TsQ T G W (testF T p cs) r M1) := by
  intro d h M T G p cs W C S
  have n1 := S.n
  by_cases hl : letN (aheadN T p) < 6
  · have e9 : plI (aheadI T p) = nI (letN (aheadN T p)) := S.m.pla.trans (if_pos hl)
    have hp := let_lt hl
    have S1 := S.go (MtK.u (Or.inl rfl)) (S.m.adv hp) (Nat.le_succ p)
    refine Ex.of mm_X8_takesTest (Nat.le_of_ble_eq_true rfl) fun w κ X hk hnm => ?_
    refine r_aload_n (pc := 0) X dX8_takesTest_0 rfl ?_
    refine r_aload_n (pc := 1) X dX8_takesTest_1 rfl ?_
    refine r_c0_0P (pc := 2) X rfl dX8_takesTest_2 tc_8_258 mm_X8_next (kc_80 C) rfl rfl (m_next (d + 2) C S.m) (Nat.le_of_ble_eq_true rfl) ?_
    refine r_c0_1P (pc := 5) X rfl dX8_takesTest_5 tc_8_272 mm_X8_place (kc_80 C) rfl rfl (m_place (d + 2) _) (Nat.le_of_ble_eq_true rfl) ?_
    rw [e9]
    refine r_istore_n (pc := 8) X dX8_takesTest_8 (Nat.le_of_ble_eq_true rfl) ?_
    refine r_iload_n (pc := 9) X dX8_takesTest_9 rfl ?_
    refine r_if_ge (pc := 10) X dX8_takesTest_10 (tgt := 15) (by decide) (fun c10 => ?_) (fun c10 => ?_)
    · refine r_aload_n (pc := 15) X dX8_takesTest_15 rfl ?_
      refine r_dup (pc := 16) X dX8_takesTest_16 rfl ?_
      refine r_getiW (pc := 17) X dX8_takesTest_17 tf_8_53 rfl (kc_80 C) S.m.pl ?_
      refine r_iconst (pc := 20) (v := (nI 1)) X dX8_takesTest_20 (by decide) ?_
      refine r_iadd (pc := 21) X dX8_takesTest_21 ?_
      refine r_putiW (pc := 22) X dX8_takesTest_22 tf_8_53 rfl (Or.inl rfl) (kc_80 C) ⟨rfl, rfl⟩ ?_
      refine r_aload_n (pc := 25) X dX8_takesTest_25 rfl ?_
      refine r_c0_0P (pc := 26) X rfl dX8_takesTest_26 tc_8_258 mm_X8_next (kc_80 C) rfl rfl (m_next (d + 2) C S1.m) (Nat.le_of_ble_eq_true rfl) ?_
      refine r_istore_n (pc := 29) X dX8_takesTest_29 (Nat.le_of_ble_eq_true rfl) ?_
      refine r_aload_n (pc := 30) X dX8_takesTest_30 rfl ?_
      refine r_iload_n (pc := 31) X dX8_takesTest_31 rfl ?_
      refine r_bipush (pc := 32) (v := (nI 60)) X dX8_takesTest_32 (by decide) ?_
      refine r_bipush (pc := 34) (v := (nI 62)) X dX8_takesTest_34 (by decide) ?_
      refine r_c0_3P (pc := 36) X rfl dX8_takesTest_36 tc_8_236 mm_X8_in (kc_80 C) rfl rfl (m_in (d + 2) _ _ _) (Nat.le_of_ble_eq_true rfl) ?_
      refine r_if_neB (pc := 39) X dX8_takesTest_39 (tgt := 44) (by decide) (fun c39 => ?_) (fun c39 => ?_)
      · rw [S1.m.rl, Bool.and_eq_true, decide_eq_true_eq, decide_eq_true_eq] at c39
        have hp2 : p + 1 < T.1 := aheadN_lt rfl (by omega)
        have S2 := S1.go (MtK.u (Or.inl rfl)) (S1.m.adv hp2) (Nat.le_succ (p + 1))
        refine r_aload_n (pc := 44) X dX8_takesTest_44 rfl ?_
        refine r_dup (pc := 45) X dX8_takesTest_45 rfl ?_
        refine r_getiW (pc := 46) X dX8_takesTest_46 tf_8_53 rfl (kc_80 C) S1.m.pl ?_
        refine r_iconst (pc := 49) (v := (nI 1)) X dX8_takesTest_49 (by decide) ?_
        refine r_iadd (pc := 50) X dX8_takesTest_50 ?_
        refine r_putiW (pc := 51) X dX8_takesTest_51 tf_8_53 rfl (Or.inl rfl) (kc_80 C) ⟨rfl, rfl⟩ ?_
        refine r_aload_n (pc := 54) X dX8_takesTest_54 rfl ?_
        refine r_c0_0IW (pc := 55) X rfl dX8_takesTest_55 tc_8_275 mm_X8_takesNumber (kc_80 C) rfl rfl (m_number d C S2.m) (Nat.le_of_ble_eq_true rfl) (fun r55 M55 q55 => ?_)
        obtain ⟨qa, qm, qk, qd⟩ := q55
        subst qa
        refine r_if_neB (pc := 58) X dX8_takesTest_58 (tgt := 63) (by decide) (fun c58 => ?_) (fun c58 => ?_)
        · have np := num_p.1 c58
          have S3 := S2.go qk qm (by omega)
          have ai : aheadI T (p + 1) - nI 60 = nI (aheadN T (p + 1) - 60) := by
            have e : aheadI T (p + 1) = nI (aheadN T (p + 1)) := by unfold aheadI aheadN; rw [if_pos hp2, if_pos hp2]
            rw [e, nI_subn c39.1]
          have e88 := tr_test (aheadN T (p + 1) - 60) (by omega) (letN (aheadN T p)) hl _ (num_lt (T := T) (p := p + 2))
          refine r_aload_n (pc := 63) X dX8_takesTest_63 rfl ?_
          refine r_sipush (pc := 64) (v := (nI 1000)) X dX8_takesTest_64 (by decide) ?_
          refine r_iload_n (pc := 67) X dX8_takesTest_67 rfl ?_
          refine r_imul (pc := 68) X dX8_takesTest_68 ?_
          refine r_bipush (pc := 69) (v := (nI 100)) X dX8_takesTest_69 (by decide) ?_
          refine r_iload_n (pc := 71) X dX8_takesTest_71 rfl ?_
          refine r_bipush (pc := 72) (v := (nI 60)) X dX8_takesTest_72 (by decide) ?_
          refine r_isub (pc := 74) X dX8_takesTest_74 ?_
          rw [ai]
          refine r_imul (pc := 75) X dX8_takesTest_75 ?_
          refine r_iadd (pc := 76) X dX8_takesTest_76 ?_
          refine r_aload_n (pc := 77) X dX8_takesTest_77 rfl ?_
          refine r_getiW (pc := 78) X dX8_takesTest_78 tf_8_56 rfl (kc_80 C) (qd c58) ?_
          refine r_iadd (pc := 81) X dX8_takesTest_81 ?_
          refine r_c0_1VW (pc := 82) X rfl dX8_takesTest_82 tc_8_269 mm_X8_emits (kc_80 C) rfl rfl (m_emits (d + 2) C S3.ss (by omega)) (Nat.le_of_ble_eq_true rfl) (fun M82 q82 => ?_)
          subst q82
          have S4 := PSt.tell (M1 := emM M55 (G.1 + cs.length) (nI 1000 * nI (letN (aheadN T p)) + nI 100 * nI (aheadN T (p + 1) - 60) + nI (numF T (p + 2)).2.2)) (W1 := W) (q := (aheadN T (p + 1) - 60) * 65536 + letN (aheadN T p) * 256 + (numF T (p + 2)).2.2) S3 (em_93.trans (congrArg (upd (M55 93) (G.1 + cs.length)) e88)) (fun b a1 a2 => em_b a1 a2) (fun j a1 a2 a3 => em_80 a1) em_24 ((em_80 (by omega)).trans S3.wl) ((em_80 (by omega)).trans S3.op) S3.w (by omega)
          refine r_aload_n (pc := 85) X dX8_takesTest_85 rfl ?_
          refine r_c0_0VW (pc := 86) X rfl dX8_takesTest_86 tc_8_278 mm_X8_whole (kc_80 C) rfl rfl (m_whole (d + 1) C S4) (Nat.le_of_ble_eq_true rfl) (fun M86 q86 => ?_)
          refine r_iconst (pc := 89) (v := (nI 1)) X dX8_takesTest_89 (by decide) ?_
          refine r_iret (pc := 90) X dX8_takesTest_90 rfl rfl ?_
          have e : testF T p cs = (true, (numF T (p + 2)).2.1, cs ++ [(aheadN T (p + 1) - 60) * 65536 + letN (aheadN T p) * 256 + (numF T (p + 2)).2.2]) := by unfold testF; rw [if_pos hl, if_pos c39, if_pos c58]
          rw [e]
          exact ⟨⟨_, _, rfl, rfl, rfl, fun _ => q86, fun z => absurd (show true = false from z) (by decide)⟩, rfl⟩
        · refine r_iconst (pc := 61) (v := (nI 0)) X dX8_takesTest_61 (by decide) ?_
          refine r_iret (pc := 62) X dX8_takesTest_62 rfl rfl ?_
          have e : testF T p cs = (false, p + 2, cs) := by unfold testF; rw [if_pos hl, if_pos c39, if_neg (by rw [c58]; decide)]
          exact ⟨⟨_, _, rfl, rfl, TsQ.f e (S2.go qk qm (by have := num_p.2 c58; omega)) (num_p.2 c58)⟩, rfl⟩
      · refine r_iconst (pc := 42) (v := (nI 0)) X dX8_takesTest_42 (by decide) ?_
        refine r_iret (pc := 43) X dX8_takesTest_43 rfl rfl ?_
        rw [S1.m.rl] at c39
        have er : ¬ (60 ≤ aheadN T (p + 1) ∧ aheadN T (p + 1) ≤ 62) := fun z => absurd (c39.symm.trans (by rw [decide_eq_true z.1, decide_eq_true z.2])) (by decide)
        have e : testF T p cs = (false, p + 1, cs) := by unfold testF; rw [if_pos hl, if_neg er]
        exact ⟨⟨_, _, rfl, rfl, TsQ.f e S1 rfl⟩, rfl⟩
    · exact absurd (l6_0 _ hl) c10
  · have e9 : plI (aheadI T p) = -1 := S.m.pla.trans (if_neg hl)
    refine Ex.of mm_X8_takesTest (Nat.le_of_ble_eq_true rfl) fun w κ X hk hnm => ?_
    refine r_aload_n (pc := 0) X dX8_takesTest_0 rfl ?_
    refine r_aload_n (pc := 1) X dX8_takesTest_1 rfl ?_
    refine r_c0_0P (pc := 2) X rfl dX8_takesTest_2 tc_8_258 mm_X8_next (kc_80 C) rfl rfl (m_next (d + 2) C S.m) (Nat.le_of_ble_eq_true rfl) ?_
    refine r_c0_1P (pc := 5) X rfl dX8_takesTest_5 tc_8_272 mm_X8_place (kc_80 C) rfl rfl (m_place (d + 2) _) (Nat.le_of_ble_eq_true rfl) ?_
    rw [e9]
    refine r_istore_n (pc := 8) X dX8_takesTest_8 (Nat.le_of_ble_eq_true rfl) ?_
    refine r_iload_n (pc := 9) X dX8_takesTest_9 rfl ?_
    refine r_if_ge (pc := 10) X dX8_takesTest_10 (tgt := 15) (by decide) (fun c10 => ?_) (fun c10 => ?_)
    · exact absurd c10 (by decide)
    · refine r_iconst (pc := 13) (v := (nI 0)) X dX8_takesTest_13 (by decide) ?_
      refine r_iret (pc := 14) X dX8_takesTest_14 rfl rfl ?_
      exact ⟨⟨_, _, rfl, rfl, TsQ.f (if_neg hl) S rfl⟩, rfl⟩
