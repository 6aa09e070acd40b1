/-! the reference's tapes -/
theorem in_pre2 {x : Int32} {P : Nat} (hP : P ≤ 1000) : inF x (nI 0) (nI P - nI 1) = hasF x (nI P) := by
  unfold inF hasF
  have e1 : (decide (x < nI 0)) = decide (x < 0) := rfl
  rw [e1]
  by_cases c : x < 0
  · rw [decide_eq_true c]; rfl
  · rw [decide_eq_false c]
    obtain ⟨j, hj, e⟩ := nI_of c
    subst e
    have e2 : decide (nI P - nI 1 < nI j) = decide (nI P ≤ nI j) := by
      by_cases z : P = 0
      · subst z
        rw [decide_eq_true (nI_le (Nat.zero_le j) hj), decide_eq_true]
        exact Int32.lt_of_lt_of_le (show nI 0 - nI 1 < 0 by decide) (nI_pos' hj)
      · rw [nI_subn (by omega)]
        by_cases y : P ≤ j
        · rw [decide_eq_true (nI_le y hj), decide_eq_true (nI_lt (by omega) hj)]
        · rw [decide_eq_false (nI_ge (by omega) (by omega)), decide_eq_false (nI_nlt (by omega) (by omega))]
    rw [e2]
section S43
variable {σ : SG} {h : hp_T} {M M1 : Mem} {L L1 Lo : LMem} {B0 : Nat}
theorem MRep.t1 (q : MRep σ M L) (t : Nat) : M 119 t = (sT σ).1 t := congrFun (congrArg (fun T : TT => T.1) q.tp) t
theorem MRep.t2 (q : MRep σ M L) (t : Nat) : M 120 t = (sT σ).2.1 t := congrFun (congrArg (fun T : TT => T.2.1) q.tp) t
theorem MRep.t3 (q : MRep σ M L) {t j : Nat} (ht : t ≤ 5) (hj : j < 60) : L 121 (60 * t + j) = (sT σ).2.2 t j := by
  have e := congrFun (congrFun (congrArg (fun T : TT => T.2.2) q.tp) t) j
  have e2 : (Tm M L).2.2 t j = L 121 (60 * t + j) := if_pos ⟨by omega, hj⟩
  exact e2.symm.trans e
theorem WT.sg {T : TT} (hT : WT T) {t : Nat} (ht : t ≤ 5) : T.1 t < 0 ↔ T.1 t = -1 := by
  rcases (hT t (by omega)).1 with ⟨e, -⟩ | ⟨s, hs, e⟩
  · rw [e]; exact ⟨fun _ => rfl, fun _ => by decide⟩
  · rw [e]
    exact ⟨fun z => absurd z (nI_pos (by omega)), fun z => absurd (show nI s < 0 by rw [z]; decide) (nI_pos (by omega))⟩
theorem WT.pl {T : TT} (hT : WT T) {t : Nat} (ht : t ≤ 5) (i : Int32) : inF i (nI 0) (T.2.1 t - nI 1) = placeF T t i := by
  obtain ⟨n, hn, e⟩ := (hT t (by omega)).2
  rw [e, in_pre2 (by omega)]
  unfold hasF placeF
  rw [e]
theorem WT.sz {T : TT} (hT : WT T) {t : Nat} (ht : t ≤ 5) (h : T.1 t = -1) (i : Int32) : placeF T t i = false := by
  rcases (hT t (by omega)).1 with ⟨-, e⟩ | ⟨s, hs, e⟩
  · unfold placeF
    rw [e]
    by_cases c : i < 0
    · rw [decide_eq_true c]; rfl
    · rw [decide_eq_false c, decide_eq_true (show nI 0 ≤ i from Int32.not_lt.mp c)]; rfl
  · rw [h] at e
    exact absurd (show nI s < 0 by rw [← e]; decide) (nI_pos (by omega))
end S43
set_option maxRecDepth 10000 in
set_option maxHeartbeats 4000000 in
theorem n_read : ∀ (d : Nat) (t i : Int32) {σ : SG} {h : hp_T} {M : Mem} {B0 : Nat} (C : CS h) (Q : MRep σ M (h_l h)) (O : OK B0 σ), Ex (d + 9) nX8_read [.ref 80, .int t, .int i] (wi h M) 0 0 (QN (f_read σ t i) h M) := by
  intro d t i σ h M B0 C Q O
  have hT : WT (sT σ) := O.2.2.2.2.2
  refine Ex.of mm_X8_read (Nat.le_of_ble_eq_true rfl) fun w κ X hk hnm => ?_
  refine r_aload_n (pc := 0) X dX8_read_0 rfl ?_
  refine r_iload_n (pc := 1) X dX8_read_1 rfl ?_
  refine r_c0_1P (pc := 2) X rfl dX8_read_2 tc_8_383 mm_X8_isTape (kc_80 C) rfl rfl (m_isTape (d + 7) t C) (Nat.le_of_ble_eq_true rfl) ?_
  refine r_if_eqB (pc := 5) X dX8_read_5 (tgt := 34) (by decide) (fun c5 => ?_) (fun c5 => ?_)
  · refine r_ldc2 (pc := 34) (v := (-9223372036854775808)) X dX8_read_34 tk_8_377 ?_
    refine r_goto (pc := 37) X dX8_read_37 (tgt := 51) (by decide) ?_
    refine r_lret (pc := 51) X dX8_read_51 rfl ?_
    refine ⟨QN.mk (σ1 := σ) ?_ Q FM.rf, rfl⟩
    simp (decide := true) [f_read, c5]
  · obtain ⟨u, -, hu, rfl⟩ := inF_lo c5 (by omega) (by omega)
    have cu := nI_clamp (show u < 2 ^ 31 by omega)
    refine r_aload_n (pc := 8) X dX8_read_8 rfl ?_
    refine r_getr (pc := 9) X dX8_read_9 tf_8_223 rfl (kc_80 C) (rc_80_70 C) ?_
    refine r_iload_n (pc := 12) X dX8_read_12 rfl ?_
    refine r_ialdW (pc := 13) X dX8_read_13 (kc_119 C) rfl (show u < 6 by omega) (by omega) (Q.t1 u) ?_
    refine r_if_lt (pc := 14) X dX8_read_14 (tgt := 34) (by decide) (fun c14 => ?_) (fun c14 => ?_)
    · refine r_ldc2 (pc := 34) (v := (-9223372036854775808)) X dX8_read_34 tk_8_377 ?_
      refine r_goto (pc := 37) X dX8_read_37 (tgt := 51) (by decide) ?_
      refine r_lret (pc := 51) X dX8_read_51 rfl ?_
      refine ⟨QN.mk (σ1 := σ) ?_ Q FM.rf, rfl⟩
      simp (decide := true) [f_read, c5, cu, hT.sz hu ((hT.sg hu).mp c14)]
    · refine r_aload_n (pc := 17) X dX8_read_17 rfl ?_
      refine r_iload_n (pc := 18) X dX8_read_18 rfl ?_
      refine r_iconst (pc := 19) (v := (nI 0)) X dX8_read_19 (by decide) ?_
      refine r_aload_n (pc := 20) X dX8_read_20 rfl ?_
      refine r_getr (pc := 21) X dX8_read_21 tf_8_226 rfl (kc_80 C) (rc_80_71 C) ?_
      refine r_iload_n (pc := 24) X dX8_read_24 rfl ?_
      refine r_ialdW (pc := 25) X dX8_read_25 (kc_120 C) rfl (show u < 6 by omega) (by omega) (Q.t2 u) ?_
      refine r_iconst (pc := 26) (v := (nI 1)) X dX8_read_26 (by decide) ?_
      refine r_isub (pc := 27) X dX8_read_27 ?_
      refine r_c0_3P (pc := 28) X rfl dX8_read_28 tc_8_236 mm_X8_in (kc_80 C) rfl rfl (m_in (d + 8) i (nI 0) ((sT σ).2.1 u - nI 1)) (Nat.le_of_ble_eq_true rfl) ?_
      refine r_if_neB (pc := 31) X dX8_read_31 (tgt := 40) (by decide) (fun c31 => ?_) (fun c31 => ?_)
      · rw [hT.pl hu] at c31
        obtain ⟨j, hj, ej⟩ := place_nat hT hu c31
        have cj : i.toNatClampNeg = j := by rw [ej]; exact nI_clamp (by omega)
        refine r_aload_n (pc := 40) X dX8_read_40 rfl ?_
        refine r_getr (pc := 41) X dX8_read_41 tf_8_229 rfl (kc_80 C) (rc_80_72 C) ?_
        refine r_bipush (pc := 44) (v := (nI 60)) X dX8_read_44 (by decide) ?_
        refine r_iload_n (pc := 46) X dX8_read_46 rfl ?_
        refine r_imul (pc := 47) X dX8_read_47 ?_
        refine r_iload_n (pc := 48) X dX8_read_48 rfl ?_
        refine r_iadd (pc := 49) X dX8_read_49 ?_
        refine r_top (y := nI (60 * u + j)) (by rw [ej, pk_mul, nI_add]) ?_
        refine r_lald (pc := 50) X dX8_read_50 (kc_121 C) rfl (show 60 * u + j < 360 by omega) (by omega) (Q.t3 hu hj) ?_
        refine r_lret (pc := 51) X dX8_read_51 rfl ?_
        refine ⟨QN.mk (σ1 := σ) ?_ Q FM.rf, rfl⟩
        simp (decide := true) [f_read, c5, cu, cj, c31]
      · refine r_ldc2 (pc := 34) (v := (-9223372036854775808)) X dX8_read_34 tk_8_377 ?_
        refine r_goto (pc := 37) X dX8_read_37 (tgt := 51) (by decide) ?_
        refine r_lret (pc := 51) X dX8_read_51 rfl ?_
        refine ⟨QN.mk (σ1 := σ) ?_ Q FM.rf, rfl⟩
        rw [hT.pl hu] at c31
        simp (decide := true) [f_read, c5, cu, c31]
theorem ju_ok {T : TT} (hT : WT T) {t k : Nat} {i : Int32} (ht : t ≤ 5) (hk : k ≤ 6) (hi : k = 0 ∨ ∃ a, a < 60 ∧ i = nI a) : placeF T t (i + nI k) = true ↔ (¬ T.1 t < 0 ∧ ¬ i < 0 ∧ i ≤ T.2.1 t - nI k - nI 1) := by
  obtain ⟨n, hn, e⟩ := (hT t (by omega)).2
  by_cases s : T.1 t < 0
  · rw [hT.sz ht ((hT.sg ht).mp s)]
    exact ⟨fun z => (by cases z), fun z => absurd s z.1⟩
  · have small : ∀ a, a < 60 → ∀ k, k ≤ 6 → ∀ n, n ≤ 60 → (((!decide (nI a + nI k < 0) && !decide (nI n ≤ nI a + nI k)) = true) ↔ nI a ≤ nI n - nI k - nI 1) := by
      intro a ha k hk n hn
      have h9 : ∀ n, n < 61 → ∀ k, k < 7 → (nI n - nI k - nI 1).toInt = (n : Int) - k - 1 := by decide +kernel
      have h1 := h9 n (by omega) k (by omega)
      have key2 : (nI a ≤ nI n - nI k - nI 1) ↔ ¬ n ≤ a + k := by
        rw [Int32.le_iff_toInt_le, h1, nI_toInt (by omega)]
        omega
      rw [key2, nI_add, decide_eq_false (nI_pos (by omega))]
      by_cases c : n ≤ a + k
      · rw [decide_eq_true (nI_le c (by omega))]
        exact ⟨fun z => (by cases z), fun z => absurd c z⟩
      · rw [decide_eq_false (nI_ge (by omega) (by omega))]
        exact ⟨fun _ => by omega, fun _ => rfl⟩
    by_cases c : ∃ a, a < 60 ∧ i = nI a
    · obtain ⟨a, ha, rfl⟩ := c
      unfold placeF
      rw [e, small a ha k hk n hn]
      exact ⟨fun z => ⟨s, nI_pos (by omega), z⟩, fun z => z.2.2⟩
    · have hk0 : k = 0 := hi.elim id (fun z => absurd z c)
      subst hk0
      rw [show i + nI 0 = i from Int32.add_zero i]
      refine ⟨fun z => ?_, fun z => ?_⟩
      · obtain ⟨j, hj, ej⟩ := place_nat hT ht z
        exact absurd ⟨j, hj, ej⟩ c
      · obtain ⟨-, z2, z3⟩ := z
        obtain ⟨j, hj, ej⟩ := nI_of z2
        subst ej
        rw [e, show nI n - nI 0 = nI n from Int32.sub_zero _] at z3
        by_cases n0 : n = 0
        · subst n0
          exact absurd (Int32.le_trans (nI_pos' hj) z3) (by decide)
        · rw [nI_subn (by omega)] at z3
          have := (nI_leI hj (by omega)).mp z3
          exact absurd ⟨j, by omega, rfl⟩ c
set_option maxRecDepth 10000 in
set_option maxHeartbeats 4000000 in
theorem lm_judge : ∀ (d : Nat) {σ : SG} {h : hp_T} {M : Mem} {B0 t P : Nat} {i : Int32} (C : CS h) (Q : MRep σ M (h_l h)) (O : OK B0 σ) (ht : t ≤ 5) (hP : vP (sV σ) = P) {w : wc_T} {κ : cx_T} {Φ : Option Value → hp_T → Prop} (X : CX w κ (d + 9) 8 cX8_judge 4 (some .int) Φ) {rr : Int32}
    (hΦ : Φ (some (.int rr)) (wi h M)), ∀ (m k : Nat), k + m = P → (k = 0 ∨ ∃ a, a < 60 ∧ i = nI a) → juF (sT σ) (sV σ) t i m k = rr → GG w κ 24 [some (.ref 80), some (.int (nI t)), some (.int i), some (.int (nI k))] [] (wi h M) := by
  intro d σ h M B0 t P i C Q O ht hP w κ Φ X rr hΦ m
  have h6 := O.w.2.1
  have hT : WT (sT σ) := O.2.2.2.2.2
  subst hP
  induction m with
  | zero =>
    intro k hk hi hA
    have e : k = vP (sV σ) := by omega
    subst e
    subst hA
    refine r_iload_n (pc := 24) X dX8_judge_24 rfl ?_
    refine r_aload_n (pc := 25) X dX8_judge_25 rfl ?_
    refine r_getiW (pc := 26) X dX8_judge_26 tf_8_7 rfl (kc_80 C) (Q.pp O) ?_
    refine r_icmp_geN (pc := 29) X dX8_judge_29 (tgt := 96) (by decide) (by omega) (by omega) (fun c29 => ?_) (fun c29 => ?_)
    · refine r_bipush (pc := 96) (v := (-5)) X dX8_judge_96 (by decide) ?_
      refine r_iret (pc := 98) X dX8_judge_98 rfl rfl ?_
      exact hΦ
    · exact absurd (Nat.le_refl _) c29
  | succ m ih =>
    intro k hk hi hA
    have ju := ju_ok hT ht (show k ≤ 6 by omega) hi
    refine r_iload_n (pc := 24) X dX8_judge_24 rfl ?_
    refine r_aload_n (pc := 25) X dX8_judge_25 rfl ?_
    refine r_getiW (pc := 26) X dX8_judge_26 tf_8_7 rfl (kc_80 C) (Q.pp O) ?_
    refine r_icmp_geN (pc := 29) X dX8_judge_29 (tgt := 96) (by decide) (by omega) (by omega) (fun c29 => ?_) (fun c29 => ?_)
    · exact absurd c29 (by omega)
    · refine r_aload_n (pc := 32) X dX8_judge_32 rfl ?_
      refine r_getr (pc := 33) X dX8_judge_33 tf_8_223 rfl (kc_80 C) (rc_80_70 C) ?_
      refine r_iload_n (pc := 36) X dX8_judge_36 rfl ?_
      refine r_ialdW (pc := 37) X dX8_judge_37 (kc_119 C) rfl (show t < 6 by omega) (by omega) (Q.t1 t) ?_
      refine r_if_lt (pc := 38) X dX8_judge_38 (tgt := 59) (by decide) (fun c38 => ?_) (fun c38 => ?_)
      · refine r_bipush (pc := 59) (v := (nI 100)) X dX8_judge_59 (by decide) ?_
        refine r_iload_n (pc := 61) X dX8_judge_61 rfl ?_
        refine r_iadd (pc := 62) X dX8_judge_62 ?_
        refine r_iret (pc := 63) X dX8_judge_63 rfl rfl ?_
        have pf : placeF (sT σ) t (i + nI k) = false := by
          cases e : placeF (sT σ) t (i + nI k) with
          | false => rfl
          | true => exact absurd c38 (ju.mp e).1
        have e9 : juF (sT σ) (sV σ) t i (m + 1) k = nI 100 + nI k := if_neg (nt_f pf)
        rw [e9] at hA
        subst hA
        exact hΦ
      · refine r_iload_n (pc := 41) X dX8_judge_41 rfl ?_
        refine r_if_lt (pc := 42) X dX8_judge_42 (tgt := 59) (by decide) (fun c42 => ?_) (fun c42 => ?_)
        · refine r_bipush (pc := 59) (v := (nI 100)) X dX8_judge_59 (by decide) ?_
          refine r_iload_n (pc := 61) X dX8_judge_61 rfl ?_
          refine r_iadd (pc := 62) X dX8_judge_62 ?_
          refine r_iret (pc := 63) X dX8_judge_63 rfl rfl ?_
          have pf : placeF (sT σ) t (i + nI k) = false := by
            cases e : placeF (sT σ) t (i + nI k) with
            | false => rfl
            | true => exact absurd c42 (ju.mp e).2.1
          have e9 : juF (sT σ) (sV σ) t i (m + 1) k = nI 100 + nI k := if_neg (nt_f pf)
          rw [e9] at hA
          subst hA
          exact hΦ
        · refine r_iload_n (pc := 45) X dX8_judge_45 rfl ?_
          refine r_aload_n (pc := 46) X dX8_judge_46 rfl ?_
          refine r_getr (pc := 47) X dX8_judge_47 tf_8_226 rfl (kc_80 C) (rc_80_71 C) ?_
          refine r_iload_n (pc := 50) X dX8_judge_50 rfl ?_
          refine r_ialdW (pc := 51) X dX8_judge_51 (kc_120 C) rfl (show t < 6 by omega) (by omega) (Q.t2 t) ?_
          refine r_iload_n (pc := 52) X dX8_judge_52 rfl ?_
          refine r_isub (pc := 53) X dX8_judge_53 ?_
          refine r_iconst (pc := 54) (v := (nI 1)) X dX8_judge_54 (by decide) ?_
          refine r_isub (pc := 55) X dX8_judge_55 ?_
          refine r_icmp_le (pc := 56) X dX8_judge_56 (tgt := 64) (by decide) (fun c56 => ?_) (fun c56 => ?_)
          · have pt := ju.mpr ⟨c38, c42, c56⟩
            obtain ⟨j, hj, ej⟩ := place_nat hT ht pt
            have ec : (sT σ).2.2 t (i + nI k).toNatClampNeg = (sT σ).2.2 t j := by rw [ej, nI_clamp (by omega)]
            have hi2 : ∃ a, a < 60 ∧ i = nI a := by
              rcases hi with z | z
              · subst z
                exact ⟨j, hj, by rw [← ej]; exact (Int32.add_zero i).symm⟩
              · exact z
            refine r_aload_n (pc := 64) X dX8_judge_64 rfl ?_
            refine r_getr (pc := 65) X dX8_judge_65 tf_8_229 rfl (kc_80 C) (rc_80_72 C) ?_
            refine r_bipush (pc := 68) (v := (nI 60)) X dX8_judge_68 (by decide) ?_
            refine r_iload_n (pc := 70) X dX8_judge_70 rfl ?_
            refine r_imul (pc := 71) X dX8_judge_71 ?_
            refine r_iload_n (pc := 72) X dX8_judge_72 rfl ?_
            refine r_iadd (pc := 73) X dX8_judge_73 ?_
            refine r_iload_n (pc := 74) X dX8_judge_74 rfl ?_
            refine r_iadd (pc := 75) X dX8_judge_75 ?_
            refine r_top (y := nI (60 * t + j)) (by rw [Int32.add_assoc, ej, pk_mul, nI_add]) ?_
            refine r_lald (pc := 76) X dX8_judge_76 (kc_121 C) rfl (show 60 * t + j < 360 by omega) (by omega) (Q.t3 ht hj) ?_
            refine r_aload_n (pc := 77) X dX8_judge_77 rfl ?_
            refine r_getr (pc := 78) X dX8_judge_78 tf_8_35 rfl (kc_80 C) (rc_80_8 C) ?_
            refine r_iload_n (pc := 81) X dX8_judge_81 rfl ?_
            refine r_ialdW (pc := 82) X dX8_judge_82 (kc_84 C) rfl (show k < 6 by omega) (by omega) (Q.s.a4 k) ?_
            refine r_i2l (pc := 83) X dX8_judge_83 rfl ?_
            refine r_lcmp (pc := 84) X dX8_judge_84 ?_
            refine r_if_eq (pc := 85) X dX8_judge_85 (tgt := 90) (by decide) (fun c85 => ?_) (fun c85 => ?_)
            · refine r_iinc (pc := 90) X dX8_judge_90 rfl (by first | exact nI_i1 _ | rfl) ?_
              refine r_goto (pc := 93) X dX8_judge_93 (tgt := 24) (by decide) ?_
              exact ih (k + 1) (by omega) (Or.inr hi2) (((if_pos pt).trans (if_pos (ec.trans (lg_eq0.mp c85)))).symm.trans hA)
            · refine r_iload_n (pc := 88) X dX8_judge_88 rfl ?_
              refine r_iret (pc := 89) X dX8_judge_89 rfl rfl ?_
              have e9 : juF (sT σ) (sV σ) t i (m + 1) k = nI k := (if_pos pt).trans (if_neg (fun z => c85 (lg_eq0.mpr (ec.symm.trans z))))
              rw [e9] at hA
              subst hA
              exact hΦ
          · refine r_bipush (pc := 59) (v := (nI 100)) X dX8_judge_59 (by decide) ?_
            refine r_iload_n (pc := 61) X dX8_judge_61 rfl ?_
            refine r_iadd (pc := 62) X dX8_judge_62 ?_
            refine r_iret (pc := 63) X dX8_judge_63 rfl rfl ?_
            have pf : placeF (sT σ) t (i + nI k) = false := by
              cases e : placeF (sT σ) t (i + nI k) with
              | false => rfl
              | true => exact absurd (ju.mp e).2.2 c56
            have e9 : juF (sT σ) (sV σ) t i (m + 1) k = nI 100 + nI k := if_neg (nt_f pf)
            rw [e9] at hA
            subst hA
            exact hΦ
set_option maxRecDepth 10000 in
set_option maxHeartbeats 4000000 in
theorem n_judge : ∀ (d : Nat) (t i : Int32) {σ : SG} {h : hp_T} {M : Mem} {B0 : Nat} (C : CS h) (Q : MRep σ M (h_l h)) (O : OK B0 σ), Ex (d + 9) nX8_judge [.ref 80, .int t, .int i] (wi h M) 0 0 (QM (f_judge σ t i) h M) := by
  intro d t i σ h M B0 C Q O
  have hT : WT (sT σ) := O.2.2.2.2.2
  refine Ex.of mm_X8_judge (Nat.le_of_ble_eq_true rfl) fun w κ X hk hnm => ?_
  refine r_aload_n (pc := 0) X dX8_judge_0 rfl ?_
  refine r_iload_n (pc := 1) X dX8_judge_1 rfl ?_
  refine r_c0_1P (pc := 2) X rfl dX8_judge_2 tc_8_383 mm_X8_isTape (kc_80 C) rfl rfl (m_isTape (d + 7) t C) (Nat.le_of_ble_eq_true rfl) ?_
  refine r_if_neB (pc := 5) X dX8_judge_5 (tgt := 10) (by decide) (fun c5 => ?_) (fun c5 => ?_)
  · obtain ⟨u, -, hu, rfl⟩ := inF_lo c5 (by omega) (by omega)
    have cu := nI_clamp (show u < 2 ^ 31 by omega)
    refine r_aload_n (pc := 10) X dX8_judge_10 rfl ?_
    refine r_getr (pc := 11) X dX8_judge_11 tf_8_223 rfl (kc_80 C) (rc_80_70 C) ?_
    refine r_iload_n (pc := 14) X dX8_judge_14 rfl ?_
    refine r_ialdW (pc := 15) X dX8_judge_15 (kc_119 C) rfl (show u < 6 by omega) (by omega) (Q.t1 u) ?_
    refine r_if_le (pc := 16) X dX8_judge_16 (tgt := 22) (by decide) (fun c16 => ?_) (fun c16 => ?_)
    · refine r_iconst (pc := 22) (v := (nI 0)) X dX8_judge_22 (by decide) ?_
      refine r_istore_n (pc := 23) X dX8_judge_23 (Nat.le_of_ble_eq_true rfl) ?_
      have e8 : (!decide ((sT σ).1 u = -1) && !decide ((sT σ).1 u = 0)) = false := by
        rcases (hT u (by omega)).1 with ⟨e, -⟩ | ⟨s, hs, e⟩
        · rw [e]; rfl
        · rw [e] at c16 ⊢
          by_cases s0 : s = 0
          · subst s0; rfl
          · exact absurd (nI_nle (Nat.pos_of_ne_zero s0) (by omega)) (fun z => z c16)
      have e9 : f_judge σ (nI u) i = (juF (sT σ) (sV σ) u i (vP (sV σ)) 0, σ) := by
        unfold f_judge
        rw [if_pos c5, cu, if_neg (nt_f e8)]
      exact lm_judge d C Q O hu rfl X ⟨QM.mk e9 Q FM.rf, rfl⟩ (vP (sV σ)) 0 (by omega) (Or.inl rfl) rfl
    · refine r_bipush (pc := 19) (v := (-12)) X dX8_judge_19 (by decide) ?_
      refine r_iret (pc := 21) X dX8_judge_21 rfl rfl ?_
      refine ⟨QM.mk (σ1 := σ) ?_ Q FM.rf, rfl⟩
      have n1 : ¬ (sT σ).1 u = -1 := fun z => c16 (by rw [z]; decide)
      have n0 : ¬ (sT σ).1 u = 0 := fun z => c16 (by rw [z]; decide)
      simp (decide := true) [f_judge, c5, cu, n1, n0]
  · refine r_iconst (pc := 8) (v := (-1)) X dX8_judge_8 (by decide) ?_
    refine r_iret (pc := 9) X dX8_judge_9 rfl rfl ?_
    refine ⟨QM.mk (σ1 := σ) ?_ Q FM.rf, rfl⟩
    simp (decide := true) [f_judge, c5]
set_option maxRecDepth 10000 in
set_option maxHeartbeats 4000000 in
theorem m_narrow : ∀ (d : Nat) (v : Int64) {h : hp_T} {n : Nat} (hn : n ≤ 4), Ep d nX8_narrow [.ref 80, .int (nI n), .long v] h (.long (cutF (nI n) v)) := by
  intro d v h n hn
  refine Ex.of mm_X8_narrow (Nat.le_of_ble_eq_true rfl) fun w κ X hk hnm => ?_
  refine r_iload_n (pc := 0) X dX8_narrow_0 rfl ?_
  refine r_if_ne (pc := 1) X dX8_narrow_1 (tgt := 11) (by decide) (fun c1 => ?_) (fun c1 => ?_)
  · refine r_iload_n (pc := 11) X dX8_narrow_11 rfl ?_
    refine r_iconst (pc := 12) (v := (nI 1)) X dX8_narrow_12 (by decide) ?_
    refine r_icmp_neN (pc := 13) X dX8_narrow_13 (tgt := 23) (by decide) (by omega) (by omega) (fun c13 => ?_) (fun c13 => ?_)
    · refine r_iload_n (pc := 23) X dX8_narrow_23 rfl ?_
      refine r_iconst (pc := 24) (v := (nI 2)) X dX8_narrow_24 (by decide) ?_
      refine r_icmp_neN (pc := 25) X dX8_narrow_25 (tgt := 34) (by decide) (by omega) (by omega) (fun c25 => ?_) (fun c25 => ?_)
      · refine r_iload_n (pc := 34) X dX8_narrow_34 rfl ?_
        refine r_iconst (pc := 35) (v := (nI 4)) X dX8_narrow_35 (by decide) ?_
        refine r_icmp_neN (pc := 36) X dX8_narrow_36 (tgt := 53) (by decide) (by omega) (by omega) (fun c36 => ?_) (fun c36 => ?_)
        · refine r_lload_n (pc := 53) X dX8_narrow_53 rfl ?_
          refine r_lret (pc := 54) X dX8_narrow_54 rfl ?_
          have e9 : n = 3 := by exact (fun (z : ¬ n = 0) => (by omega : n = 3)) (fun z => c1 (by rw [z]; rfl))
          subst e9
          exact ⟨⟨rfl, rfl⟩, rfl⟩
        · refine r_lload_n (pc := 39) X dX8_narrow_39 rfl ?_
          refine r_lconst (pc := 40) (v := 0) X dX8_narrow_40 (by decide) ?_
          refine r_lcmp (pc := 41) X dX8_narrow_41 ?_
          refine r_if_eq (pc := 42) X dX8_narrow_42 (tgt := 49) (by decide) (fun c42 => ?_) (fun c42 => ?_)
          · refine r_lconst (pc := 49) (v := 0) X dX8_narrow_49 (by decide) ?_
            refine r_goto (pc := 50) X dX8_narrow_50 (tgt := 54) (by decide) ?_
            refine r_lret (pc := 54) X dX8_narrow_54 rfl ?_
            have e9 : n = 4 := by exact c36
            subst e9
            exact ⟨⟨by rw [show cutF (nI 4) v = if v = 0 then 0 else 1 from rfl, if_pos (lg_eq0.mp c42)], rfl⟩, rfl⟩
          · refine r_lconst (pc := 45) (v := 1) X dX8_narrow_45 (by decide) ?_
            refine r_goto (pc := 46) X dX8_narrow_46 (tgt := 54) (by decide) ?_
            refine r_lret (pc := 54) X dX8_narrow_54 rfl ?_
            have e9 : n = 4 := by exact c36
            subst e9
            exact ⟨⟨by rw [show cutF (nI 4) v = if v = 0 then 0 else 1 from rfl, if_neg (fun z => c42 (lg_eq0.mpr z))], rfl⟩, rfl⟩
      · refine r_lload_n (pc := 28) X dX8_narrow_28 rfl ?_
        refine r_l2i (pc := 29) X dX8_narrow_29 rfl ?_
        refine r_i2l (pc := 30) X dX8_narrow_30 rfl ?_
        refine r_goto (pc := 31) X dX8_narrow_31 (tgt := 54) (by decide) ?_
        refine r_lret (pc := 54) X dX8_narrow_54 rfl ?_
        have e9 : n = 2 := by exact c25
        subst e9
        exact ⟨⟨rfl, rfl⟩, rfl⟩
    · refine r_lload_n (pc := 16) X dX8_narrow_16 rfl ?_
      refine r_l2i (pc := 17) X dX8_narrow_17 rfl ?_
      refine r_i2s (pc := 18) X dX8_narrow_18 rfl ?_
      refine r_i2l (pc := 19) X dX8_narrow_19 rfl ?_
      refine r_goto (pc := 20) X dX8_narrow_20 (tgt := 54) (by decide) ?_
      refine r_lret (pc := 54) X dX8_narrow_54 rfl ?_
      have e9 : n = 1 := by exact c13
      subst e9
      exact ⟨⟨rfl, rfl⟩, rfl⟩
  · refine r_lload_n (pc := 4) X dX8_narrow_4 rfl ?_
    refine r_l2i (pc := 5) X dX8_narrow_5 rfl ?_
    refine r_i2b (pc := 6) X dX8_narrow_6 rfl ?_
    refine r_i2l (pc := 7) X dX8_narrow_7 rfl ?_
    refine r_goto (pc := 8) X dX8_narrow_8 (tgt := 54) (by decide) ?_
    refine r_lret (pc := 54) X dX8_narrow_54 rfl ?_
    have e9 : n = 0 := by exact (nI_eq (by omega) (by omega)).mp c1
    subst e9
    exact ⟨⟨rfl, rfl⟩, rfl⟩
def fzF (t k : Nat) (f : Nat → Int64) : Nat → Int64 := fun i => if 60 * t ≤ i ∧ i < 60 * t + k then 0 else f i
theorem fz_s {t k : Nat} {f : Nat → Int64} : vp_updL (fzF t k f) (60 * t + k) 0 = fzF t (k + 1) f := by
  funext i
  unfold vp_updL fzF
  by_cases c : i = 60 * t + k
  · rw [if_pos c, if_pos (by omega)]
  · rw [if_neg c]
    by_cases z : 60 * t ≤ i ∧ i < 60 * t + k
    · rw [if_pos z, if_pos (by omega)]
    · rw [if_neg z, if_neg (by omega)]
theorem tm_make {M : Mem} {Lo : LMem} {t : Nat} (ht : t ≤ 5) {s z : Int32} : Tm (mU (mU M 119 (upd (M 119) t s)) 120 (upd (mU M 119 (upd (M 119) t s) 120) t z)) (lU Lo 121 (fzF t 60 (Lo 121))) = tmake (Tm M Lo) t s z := by
  have e1 : mU (mU M 119 (upd (M 119) t s)) 120 (upd (mU M 119 (upd (M 119) t s) 120) t z) 119 = upd (M 119) t s := by rw [mU_ne (by omega), mU_eq]
  have e2 : mU (mU M 119 (upd (M 119) t s)) 120 (upd (mU M 119 (upd (M 119) t s) 120) t z) 120 = upd (M 120) t z := by rw [mU_eq, mU_ne (by omega)]
  have e3 : (fun (u i : Nat) => if u < 6 ∧ i < 60 then lU Lo 121 (fzF t 60 (Lo 121)) 121 (60 * u + i) else 0) = fun (u i : Nat) => if u = t then 0 else (if u < 6 ∧ i < 60 then Lo 121 (60 * u + i) else 0) := by
    funext u i
    by_cases c : u < 6 ∧ i < 60
    · rw [if_pos c, if_pos c, lU_eq]
      unfold fzF
      by_cases e : u = t
      · rw [if_pos e, if_pos (by omega)]
      · rw [if_neg e, if_neg (by omega)]
    · rw [if_neg c, if_neg c]
      split <;> rfl
  unfold Tm tmake
  rw [e1, e2, e3]
theorem tm_put {M : Mem} {Lo : LMem} {t j : Nat} (ht : t ≤ 5) (hj : j < 60) {v : Int64} : Tm M (lU Lo 121 (vp_updL (Lo 121) (60 * t + j) v)) = tput (Tm M Lo) t j v := by
  have e3 : (fun (u i : Nat) => if u < 6 ∧ i < 60 then lU Lo 121 (vp_updL (Lo 121) (60 * t + j) v) 121 (60 * u + i) else 0) = fun (u i : Nat) => if u = t ∧ i = j then v else (if u < 6 ∧ i < 60 then Lo 121 (60 * u + i) else 0) := by
    funext u i
    by_cases c : u < 6 ∧ i < 60
    · rw [if_pos c, if_pos c, lU_eq]
      by_cases e : u = t ∧ i = j
      · rw [if_pos e, e.1, e.2]; exact pk_uLs
      · rw [if_neg e]; exact pk_uLn (by omega)
    · rw [if_neg c, if_neg c, if_neg (by omega)]
  unfold Tm tput
  rw [e3]
theorem FM.lu {h : hp_T} {M M1 : Mem} {Lo : LMem} {f : Nat → Int64} (k : ∀ b, (b < 80 ∨ 122 < b) → M1 b = M b) : FM (wl h Lo) M (lU Lo 121 f) M1 := ⟨k, fun b hb => lU_ne (by omega)⟩
set_option maxRecDepth 10000 in
set_option maxHeartbeats 4000000 in
theorem lm_tape : ∀ (d : Nat) {h : hp_T} {M : Mem} {Lo : LMem} (C : CS h) {t : Nat} {s n : Int32} (ht : t ≤ 5) {w : wc_T} {κ : cx_T} {Φ : Option Value → hp_T → Prop} (X : CX w κ d 8 cX8_tape 5 (some .int) Φ) (hΦ : Φ (some (.int (nI 1))) (wi (wl h (lU Lo 121 (fzF t 60 (Lo 121)))) M)),
    ∀ (m k : Nat), k + m = 60 → GG w κ 69 [some (.ref 80), some (.int (nI t)), some (.int s), some (.int n), some (.int (nI k))] [] (wi (wl h (lU Lo 121 (fzF t k (Lo 121)))) M) := by
  intro d h M Lo C t s n ht w κ Φ X hΦ m
  induction m with
  | zero =>
    intro k hk
    have e : k = 60 := by omega
    subst e
    refine r_iload (pc := 69) X dX8_tape_69 rfl ?_
    refine r_bipush (pc := 71) (v := (nI 60)) X dX8_tape_71 (by decide) ?_
    refine r_icmp_geN (pc := 73) X dX8_tape_73 (tgt := 95) (by decide) (by omega) (by omega) (fun c73 => ?_) (fun c73 => ?_)
    · refine r_iconst (pc := 95) (v := (nI 1)) X dX8_tape_95 (by decide) ?_
      refine r_iret (pc := 96) X dX8_tape_96 rfl rfl ?_
      exact hΦ
    · exact absurd (Nat.le_refl _) c73
  | succ m ih =>
    intro k hk
    refine r_iload (pc := 69) X dX8_tape_69 rfl ?_
    refine r_bipush (pc := 71) (v := (nI 60)) X dX8_tape_71 (by decide) ?_
    refine r_icmp_geN (pc := 73) X dX8_tape_73 (tgt := 95) (by decide) (by omega) (by omega) (fun c73 => ?_) (fun c73 => ?_)
    · exact absurd c73 (by omega)
    · refine r_aload_n (pc := 76) X dX8_tape_76 rfl ?_
      refine r_getr (pc := 77) X dX8_tape_77 tf_8_229 rfl (kc_80 C) (rc_80_72 C) ?_
      refine r_bipush (pc := 80) (v := (nI 60)) X dX8_tape_80 (by decide) ?_
      refine r_iload_n (pc := 82) X dX8_tape_82 rfl ?_
      refine r_imul (pc := 83) X dX8_tape_83 ?_
      refine r_iload (pc := 84) X dX8_tape_84 rfl ?_
      refine r_iadd (pc := 86) X dX8_tape_86 ?_
      refine r_top (y := nI (60 * t + k)) (by rw [pk_mul, nI_add]) ?_
      refine r_lconst (pc := 87) (v := 0) X dX8_tape_87 (by decide) ?_
      refine r_lastL (pc := 88) X dX8_tape_88 (kc_121 C) rfl (show 60 * t + k < 360 by omega) (by omega) ?_
      refine r_iinc (pc := 89) X dX8_tape_89 rfl (by first | exact nI_i1 _ | rfl) ?_
      refine r_goto (pc := 92) X dX8_tape_92 (tgt := 69) (by decide) ?_
      rw [lU_lU, lU_eq, fz_s]
      exact ih (k + 1) (by omega)
set_option maxRecDepth 10000 in
set_option maxHeartbeats 4000000 in
theorem n_tape : ∀ (d : Nat) (t s n : Int32) {σ : SG} {h : hp_T} {M : Mem} {Lo : LMem} {B0 : Nat} (C : CS h) (Q : MRep σ M Lo) (O : OK B0 σ), Ex (d + 9) nX8_tape [.ref 80, .int t, .int s, .int n] (wi (wl h Lo) M) 0 0 (QM (f_tape σ t s n) (wl h Lo) M) := by
  intro d t s n σ h M Lo B0 C Q O
  have est : setTp σ (sT σ) = σ := rfl
  refine Ex.of mm_X8_tape (Nat.le_of_ble_eq_true rfl) fun w κ X hk hnm => ?_
  refine r_aload_n (pc := 0) X dX8_tape_0 rfl ?_
  refine r_iload_n (pc := 1) X dX8_tape_1 rfl ?_
  refine r_c0_1P (pc := 2) X rfl dX8_tape_2 tc_8_383 mm_X8_isTape (kc_80 C) rfl rfl (m_isTape (d + 7) t C (h := wi (wl h Lo) M)) (Nat.le_of_ble_eq_true rfl) ?_
  refine r_if_neB (pc := 5) X dX8_tape_5 (tgt := 10) (by decide) (fun c5 => ?_) (fun c5 => ?_)
  · obtain ⟨u, -, hu, rfl⟩ := inF_lo c5 (by omega) (by omega)
    have cu := nI_clamp (show u < 2 ^ 31 by omega)
    refine r_aload_n (pc := 10) X dX8_tape_10 rfl ?_
    refine r_iload_n (pc := 11) X dX8_tape_11 rfl ?_
    refine r_iconst (pc := 12) (v := (-1)) X dX8_tape_12 (by decide) ?_
    refine r_iconst (pc := 13) (v := (nI 4)) X dX8_tape_13 (by decide) ?_
    refine r_c0_3P (pc := 14) X rfl dX8_tape_14 tc_8_236 mm_X8_in (kc_80 C) rfl rfl (m_in (d + 8) s (-1) (nI 4)) (Nat.le_of_ble_eq_true rfl) ?_
    refine r_if_eqB (pc := 17) X dX8_tape_17 (tgt := 30) (by decide) (fun c17 => ?_) (fun c17 => ?_)
    · refine r_bipush (pc := 30) (v := (-2)) X dX8_tape_30 (by decide) ?_
      refine r_iret (pc := 32) X dX8_tape_32 rfl rfl ?_
      refine ⟨QM.mkL (h := wl h Lo) (L1 := Lo) (σ1 := σ) ?_ Q ⟨fun _ _ => rfl, fun _ _ => rfl⟩, rfl⟩
      simp (decide := true) [f_tape, makeF, c5, c17]
    · refine r_iload_n (pc := 20) X dX8_tape_20 rfl ?_
      refine r_if_lt (pc := 21) X dX8_tape_21 (tgt := 33) (by decide) (fun c21 => ?_) (fun c21 => ?_)
      · refine r_iload_n (pc := 33) X dX8_tape_33 rfl ?_
        refine r_if_lt (pc := 34) X dX8_tape_34 (tgt := 44) (by decide) (fun c34 => ?_) (fun c34 => ?_)
        · have sg : s < 0 ↔ s = -1 := by
            unfold inF at c17
            rw [Bool.and_eq_true] at c17
            have c18 := c17.1
            simp only [Bool.not_eq_true', decide_eq_false_iff_not] at c18
            refine ⟨fun z => ?_, fun z => by rw [z]; decide⟩
            have h1 := Int32.lt_iff_toInt_lt.mp z
            have h2 : ¬ s.toInt < (-1 : Int32).toInt := fun y => c18 (Int32.lt_iff_toInt_lt.mpr y)
            have h3 : (-1 : Int32).toInt = -1 := by decide
            have h4 : (0 : Int32).toInt = 0 := by decide
            exact Int32.toInt_inj.mp (by omega)
          refine r_aload_n (pc := 44) X dX8_tape_44 rfl ?_
          refine r_getr (pc := 45) X dX8_tape_45 tf_8_223 rfl (kc_80 C) (rc_80_70 C) ?_
          refine r_iload_n (pc := 48) X dX8_tape_48 rfl ?_
          refine r_iload_n (pc := 49) X dX8_tape_49 rfl ?_
          refine r_iastW (pc := 50) X dX8_tape_50 (kc_119 C) rfl (show u < 6 by omega) (by omega) ?_
          refine r_aload_n (pc := 51) X dX8_tape_51 rfl ?_
          refine r_getr (pc := 52) X dX8_tape_52 tf_8_226 rfl (kc_80 C) (rc_80_71 C) ?_
          refine r_iload_n (pc := 55) X dX8_tape_55 rfl ?_
          refine r_iload_n (pc := 56) X dX8_tape_56 rfl ?_
          refine r_if_ge (pc := 57) X dX8_tape_57 (tgt := 64) (by decide) (fun c57 => ?_) (fun c57 => ?_)
          · exact absurd c21 (Int32.not_lt.mpr c57)
          · refine r_iconst (pc := 60) (v := (nI 0)) X dX8_tape_60 (by decide) ?_
            refine r_goto (pc := 61) X dX8_tape_61 (tgt := 65) (by decide) ?_
            refine r_iastW (pc := 65) X dX8_tape_65 (kc_120 C) rfl (show u < 6 by omega) (by omega) ?_
            refine r_iconst (pc := 66) (v := (nI 0)) X dX8_tape_66 (by decide) ?_
            refine r_istore (pc := 67) X dX8_tape_67 (Nat.le_of_ble_eq_true rfl) ?_
            have t9 := tm_make (M := M) (Lo := Lo) hu (s := s) (z := (nI 0))
            rw [Q.tp] at t9
            have q9 := Q.setTp (fun b h1 h2 => by rw [mU_ne h2, mU_ne h1]) t9
            have e0 : lU Lo 121 (fzF u 0 (Lo 121)) = Lo := lU_self (funext fun i => if_neg (by omega))
            rw [show wl h Lo = wl h (lU Lo 121 (fzF u 0 (Lo 121))) by rw [e0]]
            refine lm_tape (d + 9) C hu X ⟨QM.mkL (h := wl h Lo) ?_ q9 (FM.lu fun b hb => by rw [mU_ne (by omega), mU_ne (by omega)]), rfl⟩ 60 0 (by omega)
            have em : makeF (sT σ) (nI u) s n = (nI 1, tmake (sT σ) u s (nI 0)) := by
              unfold makeF
              rw [if_pos c5, if_pos c17, cu]
              rw [if_pos (sg.mp c21)]
            exact congrArg (fun x : Int32 × TT => (x.1, setTp σ x.2)) em
        · exact absurd c21 c34
      · refine r_iload_n (pc := 24) X dX8_tape_24 rfl ?_
        refine r_bipush (pc := 25) (v := (nI 60)) X dX8_tape_25 (by decide) ?_
        refine r_icmp_le (pc := 27) X dX8_tape_27 (tgt := 33) (by decide) (fun c27 => ?_) (fun c27 => ?_)
        · refine r_iload_n (pc := 33) X dX8_tape_33 rfl ?_
          refine r_if_lt (pc := 34) X dX8_tape_34 (tgt := 44) (by decide) (fun c34 => ?_) (fun c34 => ?_)
          · exact absurd c34 c21
          · refine r_iload_n (pc := 37) X dX8_tape_37 rfl ?_
            refine r_if_ge (pc := 38) X dX8_tape_38 (tgt := 44) (by decide) (fun c38 => ?_) (fun c38 => ?_)
            · have sg : s < 0 ↔ s = -1 := by
                unfold inF at c17
                rw [Bool.and_eq_true] at c17
                have c18 := c17.1
                simp only [Bool.not_eq_true', decide_eq_false_iff_not] at c18
                refine ⟨fun z => ?_, fun z => by rw [z]; decide⟩
                have h1 := Int32.lt_iff_toInt_lt.mp z
                have h2 : ¬ s.toInt < (-1 : Int32).toInt := fun y => c18 (Int32.lt_iff_toInt_lt.mpr y)
                have h3 : (-1 : Int32).toInt = -1 := by decide
                have h4 : (0 : Int32).toInt = 0 := by decide
                exact Int32.toInt_inj.mp (by omega)
              refine r_aload_n (pc := 44) X dX8_tape_44 rfl ?_
              refine r_getr (pc := 45) X dX8_tape_45 tf_8_223 rfl (kc_80 C) (rc_80_70 C) ?_
              refine r_iload_n (pc := 48) X dX8_tape_48 rfl ?_
              refine r_iload_n (pc := 49) X dX8_tape_49 rfl ?_
              refine r_iastW (pc := 50) X dX8_tape_50 (kc_119 C) rfl (show u < 6 by omega) (by omega) ?_
              refine r_aload_n (pc := 51) X dX8_tape_51 rfl ?_
              refine r_getr (pc := 52) X dX8_tape_52 tf_8_226 rfl (kc_80 C) (rc_80_71 C) ?_
              refine r_iload_n (pc := 55) X dX8_tape_55 rfl ?_
              refine r_iload_n (pc := 56) X dX8_tape_56 rfl ?_
              refine r_if_ge (pc := 57) X dX8_tape_57 (tgt := 64) (by decide) (fun c57 => ?_) (fun c57 => ?_)
              · refine r_iload_n (pc := 64) X dX8_tape_64 rfl ?_
                refine r_iastW (pc := 65) X dX8_tape_65 (kc_120 C) rfl (show u < 6 by omega) (by omega) ?_
                refine r_iconst (pc := 66) (v := (nI 0)) X dX8_tape_66 (by decide) ?_
                refine r_istore (pc := 67) X dX8_tape_67 (Nat.le_of_ble_eq_true rfl) ?_
                have t9 := tm_make (M := M) (Lo := Lo) hu (s := s) (z := n)
                rw [Q.tp] at t9
                have q9 := Q.setTp (fun b h1 h2 => by rw [mU_ne h2, mU_ne h1]) t9
                have e0 : lU Lo 121 (fzF u 0 (Lo 121)) = Lo := lU_self (funext fun i => if_neg (by omega))
                rw [show wl h Lo = wl h (lU Lo 121 (fzF u 0 (Lo 121))) by rw [e0]]
                refine lm_tape (d + 9) C hu X ⟨QM.mkL (h := wl h Lo) ?_ q9 (FM.lu fun b hb => by rw [mU_ne (by omega), mU_ne (by omega)]), rfl⟩ 60 0 (by omega)
                have em : makeF (sT σ) (nI u) s n = (nI 1, tmake (sT σ) u s n) := by
                  unfold makeF
                  rw [if_pos c5, if_pos c17, cu]
                  have sn : ¬ s = -1 := fun z => c21 (sg.mpr z)
                  rw [if_neg sn, if_neg (Int32.not_lt.mpr c27), if_neg (Int32.not_lt.mpr c38)]
                exact congrArg (fun x : Int32 × TT => (x.1, setTp σ x.2)) em
              · exact absurd (Int32.not_lt.mp c21) c57
            · refine r_bipush (pc := 41) (v := (-14)) X dX8_tape_41 (by decide) ?_
              refine r_iret (pc := 43) X dX8_tape_43 rfl rfl ?_
              have sn : ¬ s = -1 := fun z => c21 (by rw [z]; decide)
              have n60 : ¬ nI 60 < n := Int32.not_lt.mpr c27
              have nn : n < 0 := Int32.not_le.mp c38
              refine ⟨QM.mkL (h := wl h Lo) (L1 := Lo) (σ1 := σ) ?_ Q ⟨fun _ _ => rfl, fun _ _ => rfl⟩, rfl⟩
              simp (decide := true) [f_tape, makeF, sn, n60, nn, c5, c17, c21, c27, c34, c38]
        · refine r_bipush (pc := 30) (v := (-2)) X dX8_tape_30 (by decide) ?_
          refine r_iret (pc := 32) X dX8_tape_32 rfl rfl ?_
          have sn : ¬ s = -1 := fun z => c21 (by rw [z]; decide)
          refine ⟨QM.mkL (h := wl h Lo) (L1 := Lo) (σ1 := σ) ?_ Q ⟨fun _ _ => rfl, fun _ _ => rfl⟩, rfl⟩
          simp (decide := true) [f_tape, makeF, sn, show nI 60 < n from Int32.not_le.mp c27, c5, c17, c21, c27]
  · refine r_iconst (pc := 8) (v := (-1)) X dX8_tape_8 (by decide) ?_
    refine r_iret (pc := 9) X dX8_tape_9 rfl rfl ?_
    refine ⟨QM.mkL (h := wl h Lo) (L1 := Lo) (σ1 := σ) ?_ Q ⟨fun _ _ => rfl, fun _ _ => rfl⟩, rfl⟩
    simp (decide := true) [f_tape, makeF, c5]
set_option maxRecDepth 10000 in
set_option maxHeartbeats 4000000 in
theorem n_item : ∀ (d : Nat) (t i : Int32) (v : Int64) {σ : SG} {h : hp_T} {M : Mem} {Lo : LMem} {B0 : Nat} (C : CS h) (Q : MRep σ M Lo) (O : OK B0 σ), Ex (d + 9) nX8_item [.ref 80, .int t, .int i, .long v] (wi (wl h Lo) M) 0 0 (QM (f_item σ t i v) (wl h Lo) M) := by
  intro d t i v σ h M Lo B0 C Q O
  have hT : WT (sT σ) := O.2.2.2.2.2
  have est : setTp σ (sT σ) = σ := rfl
  refine Ex.of mm_X8_item (Nat.le_of_ble_eq_true rfl) fun w κ X hk hnm => ?_
  refine r_aload_n (pc := 0) X dX8_item_0 rfl ?_
  refine r_iload_n (pc := 1) X dX8_item_1 rfl ?_
  refine r_c0_1P (pc := 2) X rfl dX8_item_2 tc_8_383 mm_X8_isTape (kc_80 C) rfl rfl (m_isTape (d + 7) t C (h := wi (wl h Lo) M)) (Nat.le_of_ble_eq_true rfl) ?_
  refine r_if_neB (pc := 5) X dX8_item_5 (tgt := 10) (by decide) (fun c5 => ?_) (fun c5 => ?_)
  · obtain ⟨u, -, hu, rfl⟩ := inF_lo c5 (by omega) (by omega)
    have cu := nI_clamp (show u < 2 ^ 31 by omega)
    refine r_aload_n (pc := 10) X dX8_item_10 rfl ?_
    refine r_getr (pc := 11) X dX8_item_11 tf_8_223 rfl (kc_80 C) (rc_80_70 C) ?_
    refine r_iload_n (pc := 14) X dX8_item_14 rfl ?_
    refine r_ialdW (pc := 15) X dX8_item_15 (kc_119 C) rfl (show u < 6 by omega) (by omega) (Q.t1 u) ?_
    refine r_if_ge (pc := 16) X dX8_item_16 (tgt := 22) (by decide) (fun c16 => ?_) (fun c16 => ?_)
    · refine r_aload_n (pc := 22) X dX8_item_22 rfl ?_
      refine r_iload_n (pc := 23) X dX8_item_23 rfl ?_
      refine r_iconst (pc := 24) (v := (nI 0)) X dX8_item_24 (by decide) ?_
      refine r_aload_n (pc := 25) X dX8_item_25 rfl ?_
      refine r_getr (pc := 26) X dX8_item_26 tf_8_226 rfl (kc_80 C) (rc_80_71 C) ?_
      refine r_iload_n (pc := 29) X dX8_item_29 rfl ?_
      refine r_ialdW (pc := 30) X dX8_item_30 (kc_120 C) rfl (show u < 6 by omega) (by omega) (Q.t2 u) ?_
      refine r_iconst (pc := 31) (v := (nI 1)) X dX8_item_31 (by decide) ?_
      refine r_isub (pc := 32) X dX8_item_32 ?_
      refine r_c0_3P (pc := 33) X rfl dX8_item_33 tc_8_236 mm_X8_in (kc_80 C) rfl rfl (m_in (d + 8) i (nI 0) ((sT σ).2.1 u - nI 1)) (Nat.le_of_ble_eq_true rfl) ?_
      refine r_if_neB (pc := 36) X dX8_item_36 (tgt := 42) (by decide) (fun c36 => ?_) (fun c36 => ?_)
      · rw [hT.pl hu] at c36
        obtain ⟨j, hj, ej⟩ := place_nat hT hu c36
        have cj : i.toNatClampNeg = j := by rw [ej]; exact nI_clamp (by omega)
        obtain ⟨sn, hsn, esn⟩ : ∃ sn, sn ≤ 4 ∧ (sT σ).1 u = nI sn := (hT u (by omega)).1.elim (fun z => absurd (show (sT σ).1 u < 0 by rw [z.1]; decide) (Int32.not_lt.mpr c16)) (fun z => z)
        refine r_aload_n (pc := 42) X dX8_item_42 rfl ?_
        refine r_getr (pc := 43) X dX8_item_43 tf_8_229 rfl (kc_80 C) (rc_80_72 C) ?_
        refine r_bipush (pc := 46) (v := (nI 60)) X dX8_item_46 (by decide) ?_
        refine r_iload_n (pc := 48) X dX8_item_48 rfl ?_
        refine r_imul (pc := 49) X dX8_item_49 ?_
        refine r_iload_n (pc := 50) X dX8_item_50 rfl ?_
        refine r_iadd (pc := 51) X dX8_item_51 ?_
        refine r_top (y := nI (60 * u + j)) (by rw [ej, pk_mul, nI_add]) ?_
        refine r_aload_n (pc := 52) X dX8_item_52 rfl ?_
        refine r_aload_n (pc := 53) X dX8_item_53 rfl ?_
        refine r_getr (pc := 54) X dX8_item_54 tf_8_223 rfl (kc_80 C) (rc_80_70 C) ?_
        refine r_iload_n (pc := 57) X dX8_item_57 rfl ?_
        refine r_ialdW (pc := 58) X dX8_item_58 (kc_119 C) rfl (show u < 6 by omega) (by omega) ((Q.t1 u).trans esn) ?_
        refine r_lload_n (pc := 59) X dX8_item_59 rfl ?_
        refine r_c0_2P (pc := 60) X rfl dX8_item_60 tc_8_410 mm_X8_narrow (kc_80 C) rfl rfl (m_narrow (d + 8) v hsn) (Nat.le_of_ble_eq_true rfl) ?_
        refine r_lastL (pc := 63) X dX8_item_63 (kc_121 C) rfl (show 60 * u + j < 360 by omega) (by omega) ?_
        refine r_iconst (pc := 64) (v := (nI 1)) X dX8_item_64 (by decide) ?_
        refine r_iret (pc := 65) X dX8_item_65 rfl rfl ?_
        have t9 := tm_put (M := M) (Lo := Lo) hu hj (v := cutF (nI sn) v)
        rw [Q.tp] at t9
        have q9 := Q.setTp (M1 := M) (fun b h1 h2 => rfl) t9
        have s1 : ¬ (sT σ).1 u = -1 := fun z => absurd c16 (by rw [z]; decide)
        refine ⟨QM.mkL (h := wl h Lo) ?_ q9 (FM.lu fun b hb => rfl), rfl⟩
        unfold f_item putF
        rw [if_pos c5, cu, if_neg s1, if_pos c36, cj, esn]
      · refine r_bipush (pc := 39) (v := (-13)) X dX8_item_39 (by decide) ?_
        refine r_iret (pc := 41) X dX8_item_41 rfl rfl ?_
        rw [hT.pl hu] at c36
        have s1 : ¬ (sT σ).1 u = -1 := fun z => absurd c16 (by rw [z]; decide)
        refine ⟨QM.mkL (h := wl h Lo) (L1 := Lo) (σ1 := σ) ?_ Q ⟨fun _ _ => rfl, fun _ _ => rfl⟩, rfl⟩
        simp (decide := true) [f_item, putF, cu, s1, c5, c16, c36]
    · refine r_bipush (pc := 19) (v := (-11)) X dX8_item_19 (by decide) ?_
      refine r_iret (pc := 21) X dX8_item_21 rfl rfl ?_
      have s1 := (hT.sg hu).mp (Int32.not_le.mp c16)
      refine ⟨QM.mkL (h := wl h Lo) (L1 := Lo) (σ1 := σ) ?_ Q ⟨fun _ _ => rfl, fun _ _ => rfl⟩, rfl⟩
      simp (decide := true) [f_item, putF, cu, s1, c5, c16]
  · refine r_iconst (pc := 8) (v := (-1)) X dX8_item_8 (by decide) ?_
    refine r_iret (pc := 9) X dX8_item_9 rfl rfl ?_
    refine ⟨QM.mkL (h := wl h Lo) (L1 := Lo) (σ1 := σ) ?_ Q ⟨fun _ _ => rfl, fun _ _ => rfl⟩, rfl⟩
    simp (decide := true) [f_item, putF, c5]
def cyF (f g : Nat → Int64) (s d k : Nat) : Nat → Int64 := fun i => if d ≤ i ∧ i < d + k then f (s + (i - d)) else g i
theorem cy_s {f g : Nat → Int64} {s d k : Nat} : vp_updL (cyF f g s d k) (d + k) (f (s + k)) = cyF f g s d (k + 1) := by
  funext i
  unfold vp_updL cyF
  by_cases c : i = d + k
  · rw [if_pos c, if_pos (by omega), c, show d + k - d = k by omega]
  · rw [if_neg c]
    by_cases z : d ≤ i ∧ i < d + k
    · rw [if_pos z, if_pos (by omega)]
    · rw [if_neg z, if_neg (by omega)]
theorem cy_0 {f g : Nat → Int64} {s d : Nat} : cyF f g s d 0 = g := funext fun i => if_neg (by omega)
theorem tm_copy {M : Mem} {Lo : LMem} {t o a b n : Nat} (ht : t ≤ 5) (ho : o ≤ 5) (ha : a + n ≤ 60) (hb : b + n ≤ 60) {L1 : LMem} (h1 : L1 121 = cyF (Lo 121) (Lo 121) (60 * t + a) (60 * o + b) n) : Tm M L1 = tcopy (Tm M Lo) t a o b n := by
  have e3 : (fun (u i : Nat) => if u < 6 ∧ i < 60 then L1 121 (60 * u + i) else 0) = fun (u k : Nat) => if u = o ∧ b ≤ k ∧ k < b + n then (if t < 6 ∧ a + (k - b) < 60 then Lo 121 (60 * t + (a + (k - b))) else 0) else (if u < 6 ∧ k < 60 then Lo 121 (60 * u + k) else 0) := by
    funext u i
    rw [h1]
    unfold cyF
    by_cases c : u < 6 ∧ i < 60
    · rw [if_pos c]
      by_cases e : u = o ∧ b ≤ i ∧ i < b + n
      · rw [if_pos e, if_pos (by omega), if_pos (by omega)]
        exact congrArg _ (by omega)
      · rw [if_neg e, if_neg (by omega), if_pos c]
    · rw [if_neg c, if_neg (by omega), if_neg c]
  unfold Tm tcopy
  rw [e3]
set_option maxRecDepth 10000 in
set_option maxHeartbeats 4000000 in
theorem lm_shA : ∀ (d : Nat) {h : hp_T} {M : Mem} {Lo : LMem} (C : CS h) {t o a b n : Nat} (ht : t ≤ 5) (ha : a + n ≤ 60) {w : wc_T} {κ : cx_T} {Φ : Option Value → hp_T → Prop} (X : CX w κ d 8 cX8_shift 7 (some .int) Φ) (hT : ∀ z, GG w κ 138 [some (.ref 80), some (.int (nI t)), some (.int (nI a)), some (.int (nI o)), some (.int (nI b)), some (.int (nI n)), z] [] (wi (wl h (lU Lo 122 (cyF (Lo 121) (Lo 122) (60 * t + a) 0 n))) M)),
    ∀ (m k : Nat), k + m = n → GG w κ 104 [some (.ref 80), some (.int (nI t)), some (.int (nI a)), some (.int (nI o)), some (.int (nI b)), some (.int (nI n)), some (.int (nI k))] [] (wi (wl h (lU Lo 122 (cyF (Lo 121) (Lo 122) (60 * t + a) 0 k))) M) := by
  intro d h M Lo C t o a b n ht ha w κ Φ X hT m
  induction m with
  | zero =>
    intro k hk
    have e : k = n := by omega
    subst e
    refine r_iload (pc := 104) X dX8_shift_104 rfl ?_
    refine r_iload (pc := 106) X dX8_shift_106 rfl ?_
    refine r_icmp_geN (pc := 108) X dX8_shift_108 (tgt := 138) (by decide) (by omega) (by omega) (fun c108 => ?_) (fun c108 => ?_)
    · exact hT _
    · exact absurd (Nat.le_refl _) c108
  | succ m ih =>
    intro k hk
    have e9 := cy_s (f := Lo 121) (g := Lo 122) (s := 60 * t + a) (d := 0) (k := k)
    rw [Nat.zero_add] at e9
    refine r_iload (pc := 104) X dX8_shift_104 rfl ?_
    refine r_iload (pc := 106) X dX8_shift_106 rfl ?_
    refine r_icmp_geN (pc := 108) X dX8_shift_108 (tgt := 138) (by decide) (by omega) (by omega) (fun c108 => ?_) (fun c108 => ?_)
    · exact absurd c108 (by omega)
    · refine r_aload_n (pc := 111) X dX8_shift_111 rfl ?_
      refine r_getr (pc := 112) X dX8_shift_112 tf_8_233 rfl (kc_80 C) (rc_80_73 C) ?_
      refine r_iload (pc := 115) X dX8_shift_115 rfl ?_
      refine r_aload_n (pc := 117) X dX8_shift_117 rfl ?_
      refine r_getr (pc := 118) X dX8_shift_118 tf_8_229 rfl (kc_80 C) (rc_80_72 C) ?_
      refine r_bipush (pc := 121) (v := (nI 60)) X dX8_shift_121 (by decide) ?_
      refine r_iload_n (pc := 123) X dX8_shift_123 rfl ?_
      refine r_imul (pc := 124) X dX8_shift_124 ?_
      refine r_iload_n (pc := 125) X dX8_shift_125 rfl ?_
      refine r_iadd (pc := 126) X dX8_shift_126 ?_
      refine r_iload (pc := 127) X dX8_shift_127 rfl ?_
      refine r_iadd (pc := 129) X dX8_shift_129 ?_
      refine r_top (y := nI (60 * t + a + k)) (by rw [pk_mul, nI_add, nI_add]) ?_
      refine r_laldL (pc := 130) X dX8_shift_130 (kc_121 C) rfl (show 60 * t + a + k < 360 by omega) (by omega) (show lU Lo 122 _ 121 (60 * t + a + k) = Lo 121 (60 * t + a + k) by rw [lU_ne (by omega)]) ?_
      refine r_lastL (pc := 131) X dX8_shift_131 (kc_122 C) rfl (show k < 60 by omega) (by omega) ?_
      refine r_iinc (pc := 132) X dX8_shift_132 rfl (by first | exact nI_i1 _ | rfl) ?_
      refine r_goto (pc := 135) X dX8_shift_135 (tgt := 104) (by decide) ?_
      rw [lU_lU, lU_eq, e9]
      exact ih (k + 1) (by omega)
set_option maxRecDepth 10000 in
set_option maxHeartbeats 4000000 in
theorem lm_shB : ∀ (d : Nat) {h : hp_T} {M : Mem} {Lo : LMem} (C : CS h) {t o a b n : Nat} (ho : o ≤ 5) (hb : b + n ≤ 60) {w : wc_T} {κ : cx_T} {Φ : Option Value → hp_T → Prop} (X : CX w κ d 8 cX8_shift 7 (some .int) Φ) (hΦ : Φ (some (.int (nI n))) (wi (wl h (lU Lo 121 (cyF (Lo 122) (Lo 121) 0 (60 * o + b) n))) M)),
    ∀ (m k : Nat), k + m = n → GG w κ 141 [some (.ref 80), some (.int (nI t)), some (.int (nI a)), some (.int (nI o)), some (.int (nI b)), some (.int (nI n)), some (.int (nI k))] [] (wi (wl h (lU Lo 121 (cyF (Lo 122) (Lo 121) 0 (60 * o + b) k))) M) := by
  intro d h M Lo C t o a b n ho hb w κ Φ X hΦ m
  induction m with
  | zero =>
    intro k hk
    have e : k = n := by omega
    subst e
    refine r_iload (pc := 141) X dX8_shift_141 rfl ?_
    refine r_iload (pc := 143) X dX8_shift_143 rfl ?_
    refine r_icmp_geN (pc := 145) X dX8_shift_145 (tgt := 176) (by decide) (by omega) (by omega) (fun c145 => ?_) (fun c145 => ?_)
    · refine r_iload (pc := 176) X dX8_shift_176 rfl ?_
      refine r_iret (pc := 178) X dX8_shift_178 rfl rfl ?_
      exact hΦ
    · exact absurd (Nat.le_refl _) c145
  | succ m ih =>
    intro k hk
    have e9 := cy_s (f := Lo 122) (g := Lo 121) (s := 0) (d := 60 * o + b) (k := k)
    rw [Nat.zero_add] at e9
    refine r_iload (pc := 141) X dX8_shift_141 rfl ?_
    refine r_iload (pc := 143) X dX8_shift_143 rfl ?_
    refine r_icmp_geN (pc := 145) X dX8_shift_145 (tgt := 176) (by decide) (by omega) (by omega) (fun c145 => ?_) (fun c145 => ?_)
    · exact absurd c145 (by omega)
    · refine r_aload_n (pc := 148) X dX8_shift_148 rfl ?_
      refine r_getr (pc := 149) X dX8_shift_149 tf_8_229 rfl (kc_80 C) (rc_80_72 C) ?_
      refine r_bipush (pc := 152) (v := (nI 60)) X dX8_shift_152 (by decide) ?_
      refine r_iload_n (pc := 154) X dX8_shift_154 rfl ?_
      refine r_imul (pc := 155) X dX8_shift_155 ?_
      refine r_iload (pc := 156) X dX8_shift_156 rfl ?_
      refine r_iadd (pc := 158) X dX8_shift_158 ?_
      refine r_iload (pc := 159) X dX8_shift_159 rfl ?_
      refine r_iadd (pc := 161) X dX8_shift_161 ?_
      refine r_top (y := nI (60 * o + b + k)) (by rw [pk_mul, nI_add, nI_add]) ?_
      refine r_aload_n (pc := 162) X dX8_shift_162 rfl ?_
      refine r_getr (pc := 163) X dX8_shift_163 tf_8_233 rfl (kc_80 C) (rc_80_73 C) ?_
      refine r_iload (pc := 166) X dX8_shift_166 rfl ?_
      refine r_laldL (pc := 168) X dX8_shift_168 (kc_122 C) rfl (show k < 60 by omega) (by omega) (show lU Lo 121 _ 122 k = Lo 122 k by rw [lU_ne (by omega)]) ?_
      refine r_lastL (pc := 169) X dX8_shift_169 (kc_121 C) rfl (show 60 * o + b + k < 360 by omega) (by omega) ?_
      refine r_iinc (pc := 170) X dX8_shift_170 rfl (by first | exact nI_i1 _ | rfl) ?_
      refine r_goto (pc := 173) X dX8_shift_173 (tgt := 141) (by decide) ?_
      rw [lU_lU, lU_eq, e9]
      exact ih (k + 1) (by omega)
theorem run_of {T : TT} {t : Nat} {i n : Int32} (h0 : ¬ i < 0) (h1 : ¬ T.2.1 t - n < i) : runF T t i n = true := by
  unfold runF
  rw [decide_eq_false h0, decide_eq_false h1]
  rfl
theorem run_no {T : TT} {t : Nat} {i n : Int32} (h : i < 0 ∨ T.2.1 t - n < i) : ¬ runF T t i n = true := by
  unfold runF
  rcases h with h | h
  · rw [decide_eq_true h]
    exact fun z => by cases z
  · rw [decide_eq_true h, Bool.not_true, Bool.and_false]
    exact fun z => by cases z
set_option maxRecDepth 10000 in
set_option maxHeartbeats 4000000 in
theorem n_shift : ∀ (d : Nat) (t i o j n : Int32) {σ : SG} {h : hp_T} {M : Mem} {Lo : LMem} {B0 : Nat} (C : CS h) (Q : MRep σ M Lo) (O : OK B0 σ), Ex (d + 9) nX8_shift [.ref 80, .int t, .int i, .int o, .int j, .int n] (wi (wl h Lo) M) 0 0 (QM (f_shift σ t i o j n) (wl h Lo) M) := by
  intro d t i o j n σ h M Lo B0 C Q O
  have hT : WT (sT σ) := O.2.2.2.2.2
  refine Ex.of mm_X8_shift (Nat.le_of_ble_eq_true rfl) fun w κ X hk hnm => ?_
  refine r_aload_n (pc := 0) X dX8_shift_0 rfl ?_
  refine r_iload_n (pc := 1) X dX8_shift_1 rfl ?_
  refine r_c0_1P (pc := 2) X rfl dX8_shift_2 tc_8_383 mm_X8_isTape (kc_80 C) rfl rfl (m_isTape (d + 7) t C (h := wi (wl h Lo) M)) (Nat.le_of_ble_eq_true rfl) ?_
  refine r_if_eqB (pc := 5) X dX8_shift_5 (tgt := 16) (by decide) (fun c5 => ?_) (fun c5 => ?_)
  · refine r_iconst (pc := 16) (v := (-1)) X dX8_shift_16 (by decide) ?_
    refine r_iret (pc := 17) X dX8_shift_17 rfl rfl ?_
    have eb : bringF (sT σ) t i o j n = (-1, sT σ) := by
      unfold bringF
      rw [if_neg (fun z => nt_f c5 z.1)]
    refine ⟨QM.mkL (h := wl h Lo) (L1 := Lo) (σ1 := σ) ?_ Q ⟨fun _ _ => rfl, fun _ _ => rfl⟩, rfl⟩
    exact congrArg (fun x : Int32 × TT => (x.1, setTp σ x.2)) eb
  · refine r_aload_n (pc := 8) X dX8_shift_8 rfl ?_
    refine r_iload_n (pc := 9) X dX8_shift_9 rfl ?_
    refine r_c0_1P (pc := 10) X rfl dX8_shift_10 tc_8_383 mm_X8_isTape (kc_80 C) rfl rfl (m_isTape (d + 7) o C (h := wi (wl h Lo) M)) (Nat.le_of_ble_eq_true rfl) ?_
    refine r_if_neB (pc := 13) X dX8_shift_13 (tgt := 18) (by decide) (fun c13 => ?_) (fun c13 => ?_)
    · obtain ⟨u, -, hu, rfl⟩ := inF_lo c5 (by omega) (by omega)
      have cu := nI_clamp (show u < 2 ^ 31 by omega)
      obtain ⟨v, -, hv, rfl⟩ := inF_lo c13 (by omega) (by omega)
      have cv := nI_clamp (show v < 2 ^ 31 by omega)
      refine r_aload_n (pc := 18) X dX8_shift_18 rfl ?_
      refine r_getr (pc := 19) X dX8_shift_19 tf_8_223 rfl (kc_80 C) (rc_80_70 C) ?_
      refine r_iload_n (pc := 22) X dX8_shift_22 rfl ?_
      refine r_ialdW (pc := 23) X dX8_shift_23 (kc_119 C) rfl (show u < 6 by omega) (by omega) (Q.t1 u) ?_
      refine r_if_lt (pc := 24) X dX8_shift_24 (tgt := 36) (by decide) (fun c24 => ?_) (fun c24 => ?_)
      · refine r_bipush (pc := 36) (v := (-11)) X dX8_shift_36 (by decide) ?_
        refine r_iret (pc := 38) X dX8_shift_38 rfl rfl ?_
        have eb : bringF (sT σ) (nI u) i (nI v) j n = (-11, sT σ) := by
          unfold bringF
          rw [if_pos ⟨c5, c13⟩, cu, cv, if_pos (Or.inl ((hT.sg hu).mp c24))]
        refine ⟨QM.mkL (h := wl h Lo) (L1 := Lo) (σ1 := σ) ?_ Q ⟨fun _ _ => rfl, fun _ _ => rfl⟩, rfl⟩
        exact congrArg (fun x : Int32 × TT => (x.1, setTp σ x.2)) eb
      · refine r_aload_n (pc := 27) X dX8_shift_27 rfl ?_
        refine r_getr (pc := 28) X dX8_shift_28 tf_8_223 rfl (kc_80 C) (rc_80_70 C) ?_
        refine r_iload_n (pc := 31) X dX8_shift_31 rfl ?_
        refine r_ialdW (pc := 32) X dX8_shift_32 (kc_119 C) rfl (show v < 6 by omega) (by omega) (Q.t1 v) ?_
        refine r_if_ge (pc := 33) X dX8_shift_33 (tgt := 39) (by decide) (fun c33 => ?_) (fun c33 => ?_)
        · have n1 : ¬ (sT σ).1 u = -1 := fun z => c24 ((hT.sg hu).mpr z)
          have n2 : ¬ (sT σ).1 v = -1 := fun z => absurd c33 (by rw [z]; decide)
          refine r_aload_n (pc := 39) X dX8_shift_39 rfl ?_
          refine r_getr (pc := 40) X dX8_shift_40 tf_8_223 rfl (kc_80 C) (rc_80_70 C) ?_
          refine r_iload_n (pc := 43) X dX8_shift_43 rfl ?_
          refine r_ialdW (pc := 44) X dX8_shift_44 (kc_119 C) rfl (show u < 6 by omega) (by omega) (Q.t1 u) ?_
          refine r_aload_n (pc := 45) X dX8_shift_45 rfl ?_
          refine r_getr (pc := 46) X dX8_shift_46 tf_8_223 rfl (kc_80 C) (rc_80_70 C) ?_
          refine r_iload_n (pc := 49) X dX8_shift_49 rfl ?_
          refine r_ialdW (pc := 50) X dX8_shift_50 (kc_119 C) rfl (show v < 6 by omega) (by omega) (Q.t1 v) ?_
          refine r_icmp_eq (pc := 51) X dX8_shift_51 (tgt := 57) (by decide) (fun c51 => ?_) (fun c51 => ?_)
          · refine r_iload (pc := 57) X dX8_shift_57 rfl ?_
            refine r_if_lt (pc := 59) X dX8_shift_59 (tgt := 98) (by decide) (fun c59 => ?_) (fun c59 => ?_)
            · refine r_bipush (pc := 98) (v := (-13)) X dX8_shift_98 (by decide) ?_
              refine r_iret (pc := 100) X dX8_shift_100 rfl rfl ?_
              have eb : bringF (sT σ) (nI u) i (nI v) j n = (-13, sT σ) := by
                unfold bringF
                rw [if_pos ⟨c5, c13⟩, cu, cv, if_neg (fun z => z.elim n1 n2), if_pos c51, if_neg (fun z => z.1 c59)]
              refine ⟨QM.mkL (h := wl h Lo) (L1 := Lo) (σ1 := σ) ?_ Q ⟨fun _ _ => rfl, fun _ _ => rfl⟩, rfl⟩
              exact congrArg (fun x : Int32 × TT => (x.1, setTp σ x.2)) eb
            · refine r_iload_n (pc := 62) X dX8_shift_62 rfl ?_
              refine r_if_lt (pc := 63) X dX8_shift_63 (tgt := 98) (by decide) (fun c63 => ?_) (fun c63 => ?_)
              · refine r_bipush (pc := 98) (v := (-13)) X dX8_shift_98 (by decide) ?_
                refine r_iret (pc := 100) X dX8_shift_100 rfl rfl ?_
                have eb : bringF (sT σ) (nI u) i (nI v) j n = (-13, sT σ) := by
                  unfold bringF
                  rw [if_pos ⟨c5, c13⟩, cu, cv, if_neg (fun z => z.elim n1 n2), if_pos c51, if_neg (fun z => run_no (Or.inl c63) z.2.1)]
                refine ⟨QM.mkL (h := wl h Lo) (L1 := Lo) (σ1 := σ) ?_ Q ⟨fun _ _ => rfl, fun _ _ => rfl⟩, rfl⟩
                exact congrArg (fun x : Int32 × TT => (x.1, setTp σ x.2)) eb
              · refine r_iload (pc := 66) X dX8_shift_66 rfl ?_
                refine r_if_lt (pc := 68) X dX8_shift_68 (tgt := 98) (by decide) (fun c68 => ?_) (fun c68 => ?_)
                · refine r_bipush (pc := 98) (v := (-13)) X dX8_shift_98 (by decide) ?_
                  refine r_iret (pc := 100) X dX8_shift_100 rfl rfl ?_
                  have eb : bringF (sT σ) (nI u) i (nI v) j n = (-13, sT σ) := by
                    unfold bringF
                    rw [if_pos ⟨c5, c13⟩, cu, cv, if_neg (fun z => z.elim n1 n2), if_pos c51, if_neg (fun z => run_no (Or.inl c68) z.2.2)]
                  refine ⟨QM.mkL (h := wl h Lo) (L1 := Lo) (σ1 := σ) ?_ Q ⟨fun _ _ => rfl, fun _ _ => rfl⟩, rfl⟩
                  exact congrArg (fun x : Int32 × TT => (x.1, setTp σ x.2)) eb
                · refine r_iload_n (pc := 71) X dX8_shift_71 rfl ?_
                  refine r_aload_n (pc := 72) X dX8_shift_72 rfl ?_
                  refine r_getr (pc := 73) X dX8_shift_73 tf_8_226 rfl (kc_80 C) (rc_80_71 C) ?_
                  refine r_iload_n (pc := 76) X dX8_shift_76 rfl ?_
                  refine r_ialdW (pc := 77) X dX8_shift_77 (kc_120 C) rfl (show u < 6 by omega) (by omega) (Q.t2 u) ?_
                  refine r_iload (pc := 78) X dX8_shift_78 rfl ?_
                  refine r_isub (pc := 80) X dX8_shift_80 ?_
                  refine r_icmp_gt (pc := 81) X dX8_shift_81 (tgt := 98) (by decide) (fun c81 => ?_) (fun c81 => ?_)
                  · refine r_bipush (pc := 98) (v := (-13)) X dX8_shift_98 (by decide) ?_
                    refine r_iret (pc := 100) X dX8_shift_100 rfl rfl ?_
                    have eb : bringF (sT σ) (nI u) i (nI v) j n = (-13, sT σ) := by
                      unfold bringF
                      rw [if_pos ⟨c5, c13⟩, cu, cv, if_neg (fun z => z.elim n1 n2), if_pos c51, if_neg (fun z => run_no (Or.inr c81) z.2.1)]
                    refine ⟨QM.mkL (h := wl h Lo) (L1 := Lo) (σ1 := σ) ?_ Q ⟨fun _ _ => rfl, fun _ _ => rfl⟩, rfl⟩
                    exact congrArg (fun x : Int32 × TT => (x.1, setTp σ x.2)) eb
                  · refine r_iload (pc := 84) X dX8_shift_84 rfl ?_
                    refine r_aload_n (pc := 86) X dX8_shift_86 rfl ?_
                    refine r_getr (pc := 87) X dX8_shift_87 tf_8_226 rfl (kc_80 C) (rc_80_71 C) ?_
                    refine r_iload_n (pc := 90) X dX8_shift_90 rfl ?_
                    refine r_ialdW (pc := 91) X dX8_shift_91 (kc_120 C) rfl (show v < 6 by omega) (by omega) (Q.t2 v) ?_
                    refine r_iload (pc := 92) X dX8_shift_92 rfl ?_
                    refine r_isub (pc := 94) X dX8_shift_94 ?_
                    refine r_icmp_le (pc := 95) X dX8_shift_95 (tgt := 101) (by decide) (fun c95 => ?_) (fun c95 => ?_)
                    · have rA := run_of (T := sT σ) (t := u) c63 (Int32.not_lt.mpr (Int32.not_lt.mp c81))
                      have rB := run_of (T := sT σ) (t := v) c68 (Int32.not_lt.mpr c95)
                      obtain ⟨a, kn, en, ea, hac⟩ := runF_nat hT hu c59 rA
                      obtain ⟨b, kn2, en2, eb2, hbc⟩ := runF_nat hT hv c59 rB
                      subst en
                      subst ea
                      subst eb2
                      have ekn : kn = kn2 := (nI_eq (by omega) (by omega)).mp en2
                      subst ekn
                      refine r_iconst (pc := 101) (v := (nI 0)) X dX8_shift_101 (by decide) ?_
                      refine r_istore (pc := 102) X dX8_shift_102 (Nat.le_of_ble_eq_true rfl) ?_
                      have eb : bringF (sT σ) (nI u) (nI a) (nI v) (nI b) (nI kn) = (nI kn, tcopy (sT σ) u a v b kn) := by
                        unfold bringF
                        rw [if_pos ⟨c5, c13⟩, cu, cv, if_neg (fun z => z.elim n1 n2), if_pos c51, if_pos ⟨c59, rA, rB⟩, nI_clamp (by omega), nI_clamp (by omega), nI_clamp (by omega)]
                      rw [show wl h Lo = wl h (lU Lo 122 (cyF (Lo 121) (Lo 122) (60 * u + a) 0 0)) by rw [cy_0, lU_self rfl]]
                      refine lm_shA (d + 9) C hu (by omega) X (fun z => ?_) kn 0 (by omega)
                      refine r_iconst (pc := 138) (v := (nI 0)) X dX8_shift_138 (by decide) ?_
                      refine r_istore (pc := 139) X dX8_shift_139 (Nat.le_of_ble_eq_true rfl) ?_
                      have e121 : lU Lo 122 (cyF (Lo 121) (Lo 122) (60 * u + a) 0 kn) 121 = Lo 121 := lU_ne (by omega)
                      have e122 : lU Lo 122 (cyF (Lo 121) (Lo 122) (60 * u + a) 0 kn) 122 = cyF (Lo 121) (Lo 122) (60 * u + a) 0 kn := lU_eq
                      have ef : cyF (cyF (Lo 121) (Lo 122) (60 * u + a) 0 kn) (Lo 121) 0 (60 * v + b) kn = cyF (Lo 121) (Lo 121) (60 * u + a) (60 * v + b) kn := by
                        funext q
                        unfold cyF
                        by_cases c : 60 * v + b ≤ q ∧ q < 60 * v + b + kn
                        · rw [if_pos c, if_pos c, if_pos (by omega)]
                          exact congrArg _ (by omega)
                        · rw [if_neg c, if_neg c]
                      have t9 := tm_copy (M := M) (Lo := Lo) hu hv (show a + kn ≤ 60 by omega) (show b + kn ≤ 60 by omega) (L1 := lU (lU Lo 122 (cyF (Lo 121) (Lo 122) (60 * u + a) 0 kn)) 121 (cyF (Lo 121) (Lo 121) (60 * u + a) (60 * v + b) kn)) lU_eq
                      rw [Q.tp] at t9
                      have q9 := Q.setTp (M1 := M) (fun b h1 h2 => rfl) t9
                      rw [show wl h (lU Lo 122 (cyF (Lo 121) (Lo 122) (60 * u + a) 0 kn)) = wl h (lU (lU Lo 122 (cyF (Lo 121) (Lo 122) (60 * u + a) 0 kn)) 121 (cyF (lU Lo 122 (cyF (Lo 121) (Lo 122) (60 * u + a) 0 kn) 122) (lU Lo 122 (cyF (Lo 121) (Lo 122) (60 * u + a) 0 kn) 121) 0 (60 * v + b) 0)) by rw [cy_0, lU_self rfl]]
                      refine lm_shB (d + 9) C hv (by omega) X ?_ kn 0 (by omega)
                      rw [e122, e121, ef]
                      exact ⟨QM.mkL (h := wl h Lo) (congrArg (fun x : Int32 × TT => (x.1, setTp σ x.2)) eb) q9 ⟨fun _ _ => rfl, fun b hb => by rw [lU_ne (by omega), lU_ne (by omega)]; rfl⟩, rfl⟩
                    · refine r_bipush (pc := 98) (v := (-13)) X dX8_shift_98 (by decide) ?_
                      refine r_iret (pc := 100) X dX8_shift_100 rfl rfl ?_
                      have eb : bringF (sT σ) (nI u) i (nI v) j n = (-13, sT σ) := by
                        unfold bringF
                        rw [if_pos ⟨c5, c13⟩, cu, cv, if_neg (fun z => z.elim n1 n2), if_pos c51, if_neg (fun z => run_no (Or.inr (Int32.not_le.mp c95)) z.2.2)]
                      refine ⟨QM.mkL (h := wl h Lo) (L1 := Lo) (σ1 := σ) ?_ Q ⟨fun _ _ => rfl, fun _ _ => rfl⟩, rfl⟩
                      exact congrArg (fun x : Int32 × TT => (x.1, setTp σ x.2)) eb
          · refine r_bipush (pc := 54) (v := (-12)) X dX8_shift_54 (by decide) ?_
            refine r_iret (pc := 56) X dX8_shift_56 rfl rfl ?_
            have eb : bringF (sT σ) (nI u) i (nI v) j n = (-12, sT σ) := by
              unfold bringF
              rw [if_pos ⟨c5, c13⟩, cu, cv, if_neg (fun z => z.elim n1 n2), if_neg c51]
            refine ⟨QM.mkL (h := wl h Lo) (L1 := Lo) (σ1 := σ) ?_ Q ⟨fun _ _ => rfl, fun _ _ => rfl⟩, rfl⟩
            exact congrArg (fun x : Int32 × TT => (x.1, setTp σ x.2)) eb
        · refine r_bipush (pc := 36) (v := (-11)) X dX8_shift_36 (by decide) ?_
          refine r_iret (pc := 38) X dX8_shift_38 rfl rfl ?_
          have eb : bringF (sT σ) (nI u) i (nI v) j n = (-11, sT σ) := by
            unfold bringF
            rw [if_pos ⟨c5, c13⟩, cu, cv, if_pos (Or.inr ((hT.sg hv).mp (Int32.not_le.mp c33)))]
          refine ⟨QM.mkL (h := wl h Lo) (L1 := Lo) (σ1 := σ) ?_ Q ⟨fun _ _ => rfl, fun _ _ => rfl⟩, rfl⟩
          exact congrArg (fun x : Int32 × TT => (x.1, setTp σ x.2)) eb
    · refine r_iconst (pc := 16) (v := (-1)) X dX8_shift_16 (by decide) ?_
      refine r_iret (pc := 17) X dX8_shift_17 rfl rfl ?_
      have eb : bringF (sT σ) t i o j n = (-1, sT σ) := by
        unfold bringF
        rw [if_neg (fun z => nt_f c13 z.2)]
      refine ⟨QM.mkL (h := wl h Lo) (L1 := Lo) (σ1 := σ) ?_ Q ⟨fun _ _ => rfl, fun _ _ => rfl⟩, rfl⟩
      exact congrArg (fun x : Int32 × TT => (x.1, setTp σ x.2)) eb
