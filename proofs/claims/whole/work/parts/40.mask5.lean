/-! odds, mean, games; what is simple -/
set_option maxRecDepth 10000 in
set_option maxHeartbeats 4000000 in
theorem l_div : ∀ (d : Nat) {h : hp_T} {a b : Int32} {w : wc_T} {κ : cx_T} {Φ : Option Value → hp_T → Prop} (X : CX w κ d 8 cX8_divisor 6 (some .int) Φ) {rr : Nat} (hΦ : Φ (some (.int (nI rr))) h),
    ∀ (N q p : Nat) (z : Option Value), q < N → p < 2 ^ 30 → q < 2 ^ 30 → Nat.gcd p q = rr → GG w κ 5 [some (.ref 80), some (.int a), some (.int b), some (.int (nI p)), some (.int (nI q)), z] [] h := by
  intro d h a b w κ Φ X rr hΦ N
  induction N with
  | zero => intro q p z hq; exact absurd hq (Nat.not_lt_zero _)
  | succ N ih =>
    intro q p z hq hp hq2 hg
    refine r_iload (pc := 5) X dX8_divisor_5 rfl ?_
    refine r_if_eq (pc := 7) X dX8_divisor_7 (tgt := 26) (by decide) (fun c7 => ?_) (fun c7 => ?_)
    · refine r_iload_n (pc := 26) X dX8_divisor_26 rfl ?_
      refine r_iret (pc := 27) X dX8_divisor_27 rfl rfl ?_
      have q0 : q = 0 := (nI_eq (by omega) (by omega)).mp c7
      subst q0
      rw [Nat.gcd_zero_right] at hg
      subst hg
      exact hΦ
    · have q0 : 0 < q := Nat.pos_of_ne_zero fun z => c7 (by rw [z]; rfl)
      refine r_iload_n (pc := 10) X dX8_divisor_10 rfl ?_
      refine r_iload (pc := 11) X dX8_divisor_11 rfl ?_
      refine r_irem (pc := 13) X dX8_divisor_13 (nI_ne0 q0 (by omega)) ?_
      refine r_top (pk_rem (by omega) q0 (by omega)) ?_
      have hm := Nat.mod_lt p q0
      refine r_istore (pc := 14) X dX8_divisor_14 (Nat.le_of_ble_eq_true rfl) ?_
      refine r_iload (pc := 16) X dX8_divisor_16 rfl ?_
      refine r_istore_n (pc := 18) X dX8_divisor_18 (Nat.le_of_ble_eq_true rfl) ?_
      refine r_iload (pc := 19) X dX8_divisor_19 rfl ?_
      refine r_istore (pc := 21) X dX8_divisor_21 (Nat.le_of_ble_eq_true rfl) ?_
      refine r_goto (pc := 23) X dX8_divisor_23 (tgt := 5) (by decide) ?_
      exact ih (p % q) q _ (by omega) (by omega) (by omega) (by rw [← hg, Nat.gcd_comm p q, Nat.gcd_rec q p, Nat.gcd_comm])
set_option maxRecDepth 10000 in
set_option maxHeartbeats 4000000 in
theorem m_divisor : ∀ (d : Nat) {h : hp_T} {a b : Nat} (ha : a < 2 ^ 30) (hb : b < 2 ^ 30), Ep d nX8_divisor [.ref 80, .int (nI a), .int (nI b)] h (.int (nI (Nat.gcd a b))) := by
  intro d h a b ha hb
  refine Ex.of mm_X8_divisor (Nat.le_of_ble_eq_true rfl) fun w κ X hk hnm => ?_
  refine r_iload_n (pc := 0) X dX8_divisor_0 rfl ?_
  refine r_istore_n (pc := 1) X dX8_divisor_1 (Nat.le_of_ble_eq_true rfl) ?_
  refine r_iload_n (pc := 2) X dX8_divisor_2 rfl ?_
  refine r_istore (pc := 3) X dX8_divisor_3 (Nat.le_of_ble_eq_true rfl) ?_
  exact l_div d X ⟨⟨rfl, rfl⟩, rfl⟩ (b + 1) b a _ (by omega) ha hb rfl
set_option maxRecDepth 10000 in
set_option maxHeartbeats 4000000 in
theorem m_lowest : ∀ (d : Nat) (x : Int32) {h : hp_T} {M : Mem} (C : CS h) {a b : Nat} (ha : a < 2 ^ 30) (hb : b < 2 ^ 30) (h1 : 1 ≤ b), Ep (d + 1) nX8_lowest [.ref 80, .int (nI a), .int (nI b), .int x] (wi h M) (.long (fracF a b x)) := by
  intro d x h M C a b ha hb h1
  have g0 : 0 < Nat.gcd a b := Nat.gcd_pos_of_pos_right a h1
  have g1 : Nat.gcd a b ≤ b := Nat.gcd_le_right a h1
  refine Ex.of mm_X8_lowest (Nat.le_of_ble_eq_true rfl) fun w κ X hk hnm => ?_
  refine r_aload_n (pc := 0) X dX8_lowest_0 rfl ?_
  refine r_iload_n (pc := 1) X dX8_lowest_1 rfl ?_
  refine r_iload_n (pc := 2) X dX8_lowest_2 rfl ?_
  refine r_c0_2P (pc := 3) X rfl dX8_lowest_3 tc_8_374 mm_X8_divisor (kc_80 C) rfl rfl (m_divisor d ha hb) (Nat.le_of_ble_eq_true rfl) ?_
  refine r_istore (pc := 6) X dX8_lowest_6 (Nat.le_of_ble_eq_true rfl) ?_
  refine r_iload_n (pc := 8) X dX8_lowest_8 rfl ?_
  refine r_if_ne (pc := 9) X dX8_lowest_9 (tgt := 20) (by decide) (fun c9 => ?_) (fun c9 => ?_)
  · refine r_iload_n (pc := 20) X dX8_lowest_20 rfl ?_
    refine r_iload (pc := 21) X dX8_lowest_21 rfl ?_
    refine r_idiv (pc := 23) X dX8_lowest_23 (nI_ne0 g0 (by omega)) ?_
    refine r_top (pk_div (by omega) g0 (by omega)) ?_
    refine r_i2l (pc := 24) X dX8_lowest_24 rfl ?_
    refine r_lret (pc := 25) X dX8_lowest_25 rfl ?_
    exact ⟨⟨by unfold fracF; rw [if_neg c9], rfl⟩, rfl⟩
  · refine r_iload_n (pc := 12) X dX8_lowest_12 rfl ?_
    refine r_iload (pc := 13) X dX8_lowest_13 rfl ?_
    refine r_idiv (pc := 15) X dX8_lowest_15 (nI_ne0 g0 (by omega)) ?_
    refine r_top (pk_div (by omega) g0 (by omega)) ?_
    refine r_i2l (pc := 16) X dX8_lowest_16 rfl ?_
    refine r_goto (pc := 17) X dX8_lowest_17 (tgt := 25) (by decide) ?_
    refine r_lret (pc := 25) X dX8_lowest_25 rfl ?_
    exact ⟨⟨by unfold fracF; rw [if_pos c9], rfl⟩, rfl⟩
set_option maxRecDepth 10000 in
set_option maxHeartbeats 4000000 in
theorem lm_odds : ∀ (d : Nat) {σ : SG} {h : hp_T} {M0 : Mem} {B0 : Nat} (C : CS h) (O : OK B0 σ) (hB : B0 + 2000 ≤ 1000000) {w : wc_T} {κ : cx_T} {Φ : Option Value → hp_T → Prop} (X : CX w κ (d + 9) 8 cX8_odds 5 (some .long) Φ) {P n : Nat} {x : Int32} (hP : vP (sV σ) = P) (hp0 : 0 < P) (hn : n ≤ 99) {F : Nat → Bool} (hF : F = fun k => endF (goF (EE σ) n (handF (sV σ) (nI k)))) {rr : Nat} (hr : rr ≤ 6)
    (hΦ : ∀ M1, MRep σ M1 (h_l h) → FM h M0 (h_l h) M1 → Φ (some (.long (fracF rr P x))) (wi h M1)),
    ∀ (m : Nat) (k : Nat) (M : Mem) (c : Nat), k + m = P → MRep σ M (h_l h) → FM h M0 (h_l h) M → odF F m k c = rr → GG w κ 37 [some (.ref 80), some (.int (nI n)), some (.int x), some (.int (nI c)), some (.int (nI k))] [] (wi h M) := by
  intro d σ h M0 B0 C O hB w κ Φ X P n x hP hp0 hn F hF rr hr hΦ m
  have h6 := O.w.2.1
  subst hP
  induction m with
  | zero =>
    intro k M c hk Q F hA
    have e : k = vP (sV σ) := by omega
    subst e
    have hA : c = rr := hA
    subst hA
    refine r_iload (pc := 37) X dX8_odds_37 rfl ?_
    refine r_aload_n (pc := 39) X dX8_odds_39 rfl ?_
    refine r_getiW (pc := 40) X dX8_odds_40 tf_8_7 rfl (kc_80 C) (Q.pp O) ?_
    refine r_icmp_geN (pc := 43) X dX8_odds_43 (tgt := 86) (by decide) (by omega) (by omega) (fun c43 => ?_) (fun c43 => ?_)
    · refine r_aload_n (pc := 86) X dX8_odds_86 rfl ?_
      refine r_iload_n (pc := 87) X dX8_odds_87 rfl ?_
      refine r_aload_n (pc := 88) X dX8_odds_88 rfl ?_
      refine r_getiW (pc := 89) X dX8_odds_89 tf_8_7 rfl (kc_80 C) (Q.pp O) ?_
      refine r_iload_n (pc := 92) X dX8_odds_92 rfl ?_
      refine r_c0_3P (pc := 93) X rfl dX8_odds_93 tc_8_379 mm_X8_lowest (kc_80 C) rfl rfl (m_lowest (d + 7) x C (by omega) (by omega) hp0) (Nat.le_of_ble_eq_true rfl) ?_
      refine r_lret (pc := 96) X dX8_odds_96 rfl ?_
      exact hΦ M Q F
    · exact absurd (Nat.le_refl _) c43
  | succ m ih =>
    intro k M c hk Q F hA
    subst hF
    have hkp : k < vP (sV σ) := by omega
    have hW1 := O.w.handN hkp
    refine r_iload (pc := 37) X dX8_odds_37 rfl ?_
    refine r_aload_n (pc := 39) X dX8_odds_39 rfl ?_
    refine r_getiW (pc := 40) X dX8_odds_40 tf_8_7 rfl (kc_80 C) (Q.pp O) ?_
    refine r_icmp_geN (pc := 43) X dX8_odds_43 (tgt := 86) (by decide) (by omega) (by omega) (fun c43 => ?_) (fun c43 => ?_)
    · exact absurd c43 (by omega)
    · refine r_aload_n (pc := 46) X dX8_odds_46 rfl ?_
      refine r_c0_0VW (pc := 47) X rfl dX8_odds_47 tc_8_353 mm_X8_save (kc_80 C) rfl rfl (a_save (d + 8) C Q O) (Nat.le_of_ble_eq_true rfl) (fun M47 q47 => ?_)
      refine r_aload_n (pc := 50) X dX8_odds_50 rfl ?_
      refine r_iload (pc := 51) X dX8_odds_51 rfl ?_
      refine r_c0_1VW (pc := 53) X rfl dX8_odds_53 tc_8_250 mm_X8_gives (kc_80 C) rfl rfl (a_gives (d + 8) C q47 O.w hkp) (Nat.le_of_ble_eq_true rfl) (fun M53 q53 => ?_)
      refine r_aload_n (pc := 56) X dX8_odds_56 rfl ?_
      refine r_iload_n (pc := 57) X dX8_odds_57 rfl ?_
      refine r_c0_1VW (pc := 58) X rfl dX8_odds_58 tc_8_356 mm_X8_goSteps (kc_80 C) rfl rfl (a_go (d + 2) n C q53 O hW1 (by omega) (by omega)) (Nat.le_of_ble_eq_true rfl) (fun M58 q58 => ?_)
      refine r_iload_n (pc := 61) X dX8_odds_61 rfl ?_
      refine r_aload_n (pc := 62) X dX8_odds_62 rfl ?_
      refine r_getiW (pc := 63) X dX8_odds_63 tf_8_22 rfl (kc_80 C) (q58.s.2.2.2.2.1) ?_
      refine r_if_lt (pc := 66) X dX8_odds_66 (tgt := 73) (by decide) (fun c66 => ?_) (fun c66 => ?_)
      · refine r_iconst (pc := 73) (v := (nI 0)) X dX8_odds_73 (by decide) ?_
        refine r_iadd (pc := 74) X dX8_odds_74 ?_
        refine r_top (nI_add _ _) ?_
        refine r_istore_n (pc := 75) X dX8_odds_75 (Nat.le_of_ble_eq_true rfl) ?_
        refine r_aload_n (pc := 76) X dX8_odds_76 rfl ?_
        refine r_c0_0VW (pc := 77) X rfl dX8_odds_77 tc_8_359 mm_X8_putBack (kc_80 C) rfl rfl (a_back (d + 8) C q58 Q O) (Nat.le_of_ble_eq_true rfl) (fun M77 q77 => ?_)
        obtain ⟨Q1, F1⟩ := q77
        refine r_iinc (pc := 80) X dX8_odds_80 rfl (by first | exact nI_i1 _ | rfl) ?_
        refine r_goto (pc := 83) X dX8_odds_83 (tgt := 37) (by decide) ?_
        have hWg := hW1.goes O.ew n (by omega)
        exact ih (k + 1) M77 c (by omega) Q1 (F.tr F1) ((if_neg (nt_f ((en_lt hWg).mp c66))).symm.trans hA)
      · refine r_iconst (pc := 69) (v := (nI 1)) X dX8_odds_69 (by decide) ?_
        refine r_goto (pc := 70) X dX8_odds_70 (tgt := 74) (by decide) ?_
        refine r_iadd (pc := 74) X dX8_odds_74 ?_
        refine r_top (nI_add _ _) ?_
        refine r_istore_n (pc := 75) X dX8_odds_75 (Nat.le_of_ble_eq_true rfl) ?_
        refine r_aload_n (pc := 76) X dX8_odds_76 rfl ?_
        refine r_c0_0VW (pc := 77) X rfl dX8_odds_77 tc_8_359 mm_X8_putBack (kc_80 C) rfl rfl (a_back (d + 8) C q58 Q O) (Nat.le_of_ble_eq_true rfl) (fun M77 q77 => ?_)
        obtain ⟨Q1, F1⟩ := q77
        refine r_iinc (pc := 80) X dX8_odds_80 rfl (by first | exact nI_i1 _ | rfl) ?_
        refine r_goto (pc := 83) X dX8_odds_83 (tgt := 37) (by decide) ?_
        have hWg := hW1.goes O.ew n (by omega)
        have e9 : endF (goF (EE σ) n (handF (sV σ) (nI k))) = true := by
          cases e : endF (goF (EE σ) n (handF (sV σ) (nI k))) with
          | true => rfl
          | false => exact absurd ((en_lt hWg).mpr e) c66
        exact ih (k + 1) M77 (c + 1) (by omega) Q1 (F.tr F1) ((if_pos e9).symm.trans hA)
set_option maxRecDepth 10000 in
set_option maxHeartbeats 4000000 in
theorem n_odds : ∀ (d : Nat) (n x : Int32) {σ : SG} {h : hp_T} {M : Mem} {B0 : Nat} (C : CS h) (Q : MRep σ M (h_l h)) (O : OK B0 σ) (hB : B0 + 2000 ≤ 1000000), Ex (d + 9) nX8_odds [.ref 80, .int n, .int x] (wi h M) 0 0 (QN (f_odds σ n x) h M) := by
  intro d n x σ h M B0 C Q O hB
  refine Ex.of mm_X8_odds (Nat.le_of_ble_eq_true rfl) fun w κ X hk hnm => ?_
  refine r_aload_n (pc := 0) X dX8_odds_0 rfl ?_
  refine r_iload_n (pc := 1) X dX8_odds_1 rfl ?_
  refine r_iconst (pc := 2) (v := (nI 0)) X dX8_odds_2 (by decide) ?_
  refine r_bipush (pc := 3) (v := (nI 99)) X dX8_odds_3 (by decide) ?_
  refine r_c0_3P (pc := 5) X rfl dX8_odds_5 tc_8_236 mm_X8_in (kc_80 C) rfl rfl (m_in (d + 8) n (nI 0) (nI 99)) (Nat.le_of_ble_eq_true rfl) ?_
  refine r_if_eqB (pc := 8) X dX8_odds_8 (tgt := 28) (by decide) (fun c8 => ?_) (fun c8 => ?_)
  · refine r_ldc2 (pc := 28) (v := (-9223372036854775808)) X dX8_odds_28 tk_8_377 ?_
    refine r_lret (pc := 31) X dX8_odds_31 rfl ?_
    refine ⟨QN.mk (σ1 := σ) ?_ Q FM.rf, rfl⟩
    simp (decide := true) [f_odds, c8]
  · refine r_aload_n (pc := 11) X dX8_odds_11 rfl ?_
    refine r_iload_n (pc := 12) X dX8_odds_12 rfl ?_
    refine r_iconst (pc := 13) (v := (nI 0)) X dX8_odds_13 (by decide) ?_
    refine r_iconst (pc := 14) (v := (nI 1)) X dX8_odds_14 (by decide) ?_
    refine r_c0_3P (pc := 15) X rfl dX8_odds_15 tc_8_236 mm_X8_in (kc_80 C) rfl rfl (m_in (d + 8) x (nI 0) (nI 1)) (Nat.le_of_ble_eq_true rfl) ?_
    refine r_if_eqB (pc := 18) X dX8_odds_18 (tgt := 28) (by decide) (fun c18 => ?_) (fun c18 => ?_)
    · refine r_ldc2 (pc := 28) (v := (-9223372036854775808)) X dX8_odds_28 tk_8_377 ?_
      refine r_lret (pc := 31) X dX8_odds_31 rfl ?_
      refine ⟨QN.mk (σ1 := σ) ?_ Q FM.rf, rfl⟩
      simp (decide := true) [f_odds, c8, c18]
    · refine r_aload_n (pc := 21) X dX8_odds_21 rfl ?_
      refine r_getiW (pc := 22) X dX8_odds_22 tf_8_7 rfl (kc_80 C) (show M 80 0 = _ from Q.s.1) ?_
      refine r_if_ne (pc := 25) X dX8_odds_25 (tgt := 32) (by decide) (fun c25 => ?_) (fun c25 => ?_)
      · obtain ⟨t, ht0, ht, rfl⟩ := inF_lo c8 (by omega) (by omega)
        have ct := nI_clamp (show t < 2 ^ 31 by omega)
        have hp0 : 0 < vP (sV σ) := Nat.pos_of_ne_zero fun z => c25 (by rw [O.w.1, z]; rfl)
        have h6 := O.w.2.1
        refine r_iconst (pc := 32) (v := (nI 0)) X dX8_odds_32 (by decide) ?_
        refine r_istore_n (pc := 33) X dX8_odds_33 (Nat.le_of_ble_eq_true rfl) ?_
        refine r_iconst (pc := 34) (v := (nI 0)) X dX8_odds_34 (by decide) ?_
        refine r_istore (pc := 35) X dX8_odds_35 (Nat.le_of_ble_eq_true rfl) ?_
        refine lm_odds d C O hB X rfl hp0 ht rfl (Nat.le_trans (od_le (vP (sV σ)) 0 0) (by omega)) (fun M1 Q1 F1 => ⟨QN.mk ?_ Q1 F1, rfl⟩) (vP (sV σ)) 0 M 0 (by omega) Q FM.rf rfl
        simp (decide := true) [f_odds, c8, c18, c25, ct]
      · refine r_ldc2 (pc := 28) (v := (-9223372036854775808)) X dX8_odds_28 tk_8_377 ?_
        refine r_lret (pc := 31) X dX8_odds_31 rfl ?_
        refine ⟨QN.mk (σ1 := σ) ?_ Q FM.rf, rfl⟩
        simp (decide := true) [f_odds, c8, c18, c25]
set_option maxRecDepth 10000 in
set_option maxHeartbeats 4000000 in
theorem lm_mean : ∀ (d : Nat) {σ : SG} {h : hp_T} {M0 : Mem} {B0 : Nat} (C : CS h) (O : OK B0 σ) (hB : B0 + 2000 ≤ 1000000) {w : wc_T} {κ : cx_T} {Φ : Option Value → hp_T → Prop} (X : CX w κ (d + 9) 8 cX8_mean 5 (some .long) Φ) {n : Nat} {x : Int32} (hn : n ≤ 60) (hn1 : 1 ≤ n) {rr : Nat} (hr : rr < 2 ^ 30) (Q0 : MRep σ M0 (h_l h))
    (hΦ : ∀ M1, MRep σ M1 (h_l h) → FM h M0 (h_l h) M1 → Φ (some (.long (fracF rr n x))) (wi h M1)),
    ∀ (m : Nat) (k : Nat) (M : Mem) (V : VT) (c B : Nat), k + m = n → RS σ M0 M V → WF B V → B + 2 * m ≤ 1000000 → meF (EE σ) m V c = rr → GG w κ 31 [some (.ref 80), some (.int (nI n)), some (.int x), some (.int (nI c)), some (.int (nI k))] [] (wi h M) := by
  intro d σ h M0 B0 C O hB w κ Φ X n x hn hn1 rr hr Q0 hΦ m
  have h6 := O.w.2.1
  induction m with
  | zero =>
    intro k M V c B hk r hW hB2 hA
    have e : k = n := by omega
    subst e
    have hA : c = rr := hA
    subst hA
    refine r_iload (pc := 31) X dX8_mean_31 rfl ?_
    refine r_iload_n (pc := 33) X dX8_mean_33 rfl ?_
    refine r_icmp_geN (pc := 34) X dX8_mean_34 (tgt := 55) (by decide) (by omega) (by omega) (fun c34 => ?_) (fun c34 => ?_)
    · refine r_aload_n (pc := 55) X dX8_mean_55 rfl ?_
      refine r_c0_0VW (pc := 56) X rfl dX8_mean_56 tc_8_359 mm_X8_putBack (kc_80 C) rfl rfl (a_back (d + 8) C r Q0 O) (Nat.le_of_ble_eq_true rfl) (fun M56 q56 => ?_)
      refine r_aload_n (pc := 59) X dX8_mean_59 rfl ?_
      refine r_iload_n (pc := 60) X dX8_mean_60 rfl ?_
      refine r_iload_n (pc := 61) X dX8_mean_61 rfl ?_
      refine r_iload_n (pc := 62) X dX8_mean_62 rfl ?_
      refine r_c0_3P (pc := 63) X rfl dX8_mean_63 tc_8_379 mm_X8_lowest (kc_80 C) rfl rfl (m_lowest (d + 7) x C (by omega) (by omega) hn1) (Nat.le_of_ble_eq_true rfl) ?_
      refine r_lret (pc := 66) X dX8_mean_66 rfl ?_
      exact hΦ _ q56.1 q56.2
    · exact absurd (Nat.le_refl _) c34
  | succ m ih =>
    intro k M V c B hk r hW hB2 hA
    have hW1 := hW.move O.ew (by omega)
    refine r_iload (pc := 31) X dX8_mean_31 rfl ?_
    refine r_iload_n (pc := 33) X dX8_mean_33 rfl ?_
    refine r_icmp_geN (pc := 34) X dX8_mean_34 (tgt := 55) (by decide) (by omega) (by omega) (fun c34 => ?_) (fun c34 => ?_)
    · exact absurd c34 (by omega)
    · refine r_aload_n (pc := 37) X dX8_mean_37 rfl ?_
      refine r_iconst (pc := 38) (v := (nI 1)) X dX8_mean_38 (by decide) ?_
      refine r_c0_1VW (pc := 39) X rfl dX8_mean_39 tc_8_356 mm_X8_goSteps (kc_80 C) rfl rfl (a_go (d + 2) 1 C r O hW (by omega) (by omega)) (Nat.le_of_ble_eq_true rfl) (fun M39 q39 => ?_)
      refine r_iload_n (pc := 42) X dX8_mean_42 rfl ?_
      refine r_aload_n (pc := 43) X dX8_mean_43 rfl ?_
      refine r_getiW (pc := 44) X dX8_mean_44 tf_8_19 rfl (kc_80 C) ((show M39 80 3 = _ from q39.s.2.2.2.1).trans hW1.w8.1) ?_
      refine r_iadd (pc := 47) X dX8_mean_47 ?_
      refine r_top (nI_add _ _) ?_
      refine r_istore_n (pc := 48) X dX8_mean_48 (Nat.le_of_ble_eq_true rfl) ?_
      refine r_iinc (pc := 49) X dX8_mean_49 rfl (by first | exact nI_i1 _ | rfl) ?_
      refine r_goto (pc := 52) X dX8_mean_52 (tgt := 31) (by decide) ?_
      exact ih (k + 1) M39 _ _ (B + 2) (by omega) q39 hW1 (by omega) hA
set_option maxRecDepth 10000 in
set_option maxHeartbeats 4000000 in
theorem n_mean : ∀ (d : Nat) (n x : Int32) {σ : SG} {h : hp_T} {M : Mem} {B0 : Nat} (C : CS h) (Q : MRep σ M (h_l h)) (O : OK B0 σ) (hB : B0 + 2000 ≤ 1000000), Ex (d + 9) nX8_mean [.ref 80, .int n, .int x] (wi h M) 0 0 (QN (f_mean σ n x) h M) := by
  intro d n x σ h M B0 C Q O hB
  refine Ex.of mm_X8_mean (Nat.le_of_ble_eq_true rfl) fun w κ X hk hnm => ?_
  refine r_aload_n (pc := 0) X dX8_mean_0 rfl ?_
  refine r_iload_n (pc := 1) X dX8_mean_1 rfl ?_
  refine r_c0_1P (pc := 2) X rfl dX8_mean_2 tc_8_368 mm_X8_isFew (kc_80 C) rfl rfl (m_isFew (d + 7) n C) (Nat.le_of_ble_eq_true rfl) ?_
  refine r_if_eqB (pc := 5) X dX8_mean_5 (tgt := 18) (by decide) (fun c5 => ?_) (fun c5 => ?_)
  · refine r_ldc2 (pc := 18) (v := (-9223372036854775808)) X dX8_mean_18 tk_8_377 ?_
    refine r_lret (pc := 21) X dX8_mean_21 rfl ?_
    refine ⟨QN.mk (σ1 := σ) ?_ Q FM.rf, rfl⟩
    simp (decide := true) [f_mean, c5]
  · refine r_aload_n (pc := 8) X dX8_mean_8 rfl ?_
    refine r_iload_n (pc := 9) X dX8_mean_9 rfl ?_
    refine r_iconst (pc := 10) (v := (nI 0)) X dX8_mean_10 (by decide) ?_
    refine r_iconst (pc := 11) (v := (nI 1)) X dX8_mean_11 (by decide) ?_
    refine r_c0_3P (pc := 12) X rfl dX8_mean_12 tc_8_236 mm_X8_in (kc_80 C) rfl rfl (m_in (d + 8) x (nI 0) (nI 1)) (Nat.le_of_ble_eq_true rfl) ?_
    refine r_if_neB (pc := 15) X dX8_mean_15 (tgt := 22) (by decide) (fun c15 => ?_) (fun c15 => ?_)
    · obtain ⟨t, ht0, ht, rfl⟩ := inF_lo c5 (by omega) (by omega)
      have ct := nI_clamp (show t < 2 ^ 31 by omega)
      refine r_aload_n (pc := 22) X dX8_mean_22 rfl ?_
      refine r_c0_0VW (pc := 23) X rfl dX8_mean_23 tc_8_353 mm_X8_save (kc_80 C) rfl rfl (a_save (d + 8) C Q O) (Nat.le_of_ble_eq_true rfl) (fun M23 q23 => ?_)
      refine r_iconst (pc := 26) (v := (nI 0)) X dX8_mean_26 (by decide) ?_
      refine r_istore_n (pc := 27) X dX8_mean_27 (Nat.le_of_ble_eq_true rfl) ?_
      refine r_iconst (pc := 28) (v := (nI 0)) X dX8_mean_28 (by decide) ?_
      refine r_istore (pc := 29) X dX8_mean_29 (Nat.le_of_ble_eq_true rfl) ?_
      have hm := me_le O.ew t (sV σ) 0 B0 O.w (by omega)
      refine lm_mean d C O hB X ht ht0 (Nat.lt_of_le_of_lt hm (by omega)) Q (fun M1 Q1 F1 => ⟨QN.mk ?_ Q1 F1, rfl⟩) t 0 M23 _ 0 B0 (by omega) q23 O.w (by omega) rfl
      simp (decide := true) [f_mean, c5, c15, ct]
    · refine r_ldc2 (pc := 18) (v := (-9223372036854775808)) X dX8_mean_18 tk_8_377 ?_
      refine r_lret (pc := 21) X dX8_mean_21 rfl ?_
      refine ⟨QN.mk (σ1 := σ) ?_ Q FM.rf, rfl⟩
      simp (decide := true) [f_mean, c5, c15]
set_option maxRecDepth 10000 in
set_option maxHeartbeats 4000000 in
theorem lm_gone : ∀ (d : Nat) {σ : SG} {h : hp_T} {M0 : Mem} {B0 : Nat} (C : CS h) (O : OK B0 σ) (hB : B0 + 2000 ≤ 1000000) {w : wc_T} {κ : cx_T} {Φ : Option Value → hp_T → Prop} (X : CX w κ (d + 9) 8 cX8_gone 3 (some .int) Φ) {x : Int32} {P : Nat} (hP : vP (sV σ) = P) {rr : VT} (Q0 : MRep σ M0 (h_l h)) (hx : inF x (nI 0) (nI 2) = true)
    (hΦ : ∀ M1, MRep σ M1 (h_l h) → FM h M0 (h_l h) M1 → Φ (some (.int (buckF rr x))) (wi h M1)),
    ∀ (m : Nat) (k : Nat) (M : Mem) (V : VT) (B : Nat), k + m = (sGa σ).length → RS σ M0 M V → WF B V → vP V = P → B + 2 * m ≤ 1000000 → plF (EE σ) (sGa σ) m k V = rr → GG w κ 18 [some (.ref 80), some (.int x), some (.int (nI k))] [] (wi h M) := by
  intro d σ h M0 B0 C O hB w κ Φ X x P hP rr Q0 hx hΦ m
  have h6 := O.w.2.1
  have gm := O.gm
  induction m with
  | zero =>
    intro k M V B hk r hW hPV hB2 hA
    have e : k = (sGa σ).length := by omega
    subst e
    subst hA
    obtain ⟨u, -, hu, rfl⟩ := inF_lo hx (by omega) (by omega)
    refine r_iload_n (pc := 18) X dX8_gone_18 rfl ?_
    refine r_aload_n (pc := 19) X dX8_gone_19 rfl ?_
    refine r_getiW (pc := 20) X dX8_gone_20 tf_8_132 rfl (kc_80 C) (show M 80 40 = nI (sGa σ).length from by rw [r.2.2.2.1.2 40 (by omega) (by omega)]; exact Q0.2.1.2.2.1.1) ?_
    refine r_icmp_geN (pc := 23) X dX8_gone_23 (tgt := 94) (by decide) (by omega) (by omega) (fun c23 => ?_) (fun c23 => ?_)
    · refine r_iload_n (pc := 94) X dX8_gone_94 rfl ?_
      refine r_if_ne (pc := 95) X dX8_gone_95 (tgt := 109) (by decide) (fun c95 => ?_) (fun c95 => ?_)
      · refine r_iload_n (pc := 109) X dX8_gone_109 rfl ?_
        refine r_iconst (pc := 110) (v := (nI 1)) X dX8_gone_110 (by decide) ?_
        refine r_icmp_ne (pc := 111) X dX8_gone_111 (tgt := 121) (by decide) (fun c111 => ?_) (fun c111 => ?_)
        · refine r_aload_n (pc := 121) X dX8_gone_121 rfl ?_
          refine r_aload_n (pc := 122) X dX8_gone_122 rfl ?_
          refine r_getiW (pc := 123) X dX8_gone_123 tf_8_22 rfl (kc_80 C) (r.s.2.2.2.2.1) ?_
          refine r_c0_1P (pc := 126) X rfl dX8_gone_126 tc_8_254 mm_X8_orNone (kc_80 C) rfl rfl (m_orNone (d + 8) _) (Nat.le_of_ble_eq_true rfl) ?_
          refine r_top (or_en hW) ?_
          refine r_istore_n (pc := 129) X dX8_gone_129 (Nat.le_of_ble_eq_true rfl) ?_
          refine r_aload_n (pc := 130) X dX8_gone_130 rfl ?_
          refine r_c0_0VW (pc := 131) X rfl dX8_gone_131 tc_8_359 mm_X8_putBack (kc_80 C) rfl rfl (a_back (d + 8) C r Q0 O) (Nat.le_of_ble_eq_true rfl) (fun M131 q131 => ?_)
          refine r_iload_n (pc := 134) X dX8_gone_134 rfl ?_
          refine r_iret (pc := 135) X dX8_gone_135 rfl rfl ?_
          have hu0 : u = 2 := by
            rcases (show u = 0 ∨ u = 1 ∨ u = 2 by omega) with z | z | z
            · exact absurd (by rw [z]; rfl) c95
            · exact absurd (by rw [z]) c111
            · exact z
          subst hu0
          exact hΦ _ q131.1 q131.2
        · refine r_aload_n (pc := 114) X dX8_gone_114 rfl ?_
          refine r_getiW (pc := 115) X dX8_gone_115 tf_8_19 rfl (kc_80 C) (r.s.2.2.2.1) ?_
          refine r_goto (pc := 118) X dX8_gone_118 (tgt := 129) (by decide) ?_
          refine r_istore_n (pc := 129) X dX8_gone_129 (Nat.le_of_ble_eq_true rfl) ?_
          refine r_aload_n (pc := 130) X dX8_gone_130 rfl ?_
          refine r_c0_0VW (pc := 131) X rfl dX8_gone_131 tc_8_359 mm_X8_putBack (kc_80 C) rfl rfl (a_back (d + 8) C r Q0 O) (Nat.le_of_ble_eq_true rfl) (fun M131 q131 => ?_)
          refine r_iload_n (pc := 134) X dX8_gone_134 rfl ?_
          refine r_iret (pc := 135) X dX8_gone_135 rfl rfl ?_
          have hu0 : u = 1 := (nI_eq (by omega) (by omega)).mp c111
          subst hu0
          exact hΦ _ q131.1 q131.2
      · refine r_aload_n (pc := 98) X dX8_gone_98 rfl ?_
        refine r_aload_n (pc := 99) X dX8_gone_99 rfl ?_
        refine r_getiW (pc := 100) X dX8_gone_100 tf_8_16 rfl (kc_80 C) (r.s.2.2.1) ?_
        refine r_c0_1P (pc := 103) X rfl dX8_gone_103 tc_8_254 mm_X8_orNone (kc_80 C) rfl rfl (m_orNone (d + 8) _) (Nat.le_of_ble_eq_true rfl) ?_
        refine r_top (or_bk hW) ?_
        refine r_goto (pc := 106) X dX8_gone_106 (tgt := 129) (by decide) ?_
        refine r_istore_n (pc := 129) X dX8_gone_129 (Nat.le_of_ble_eq_true rfl) ?_
        refine r_aload_n (pc := 130) X dX8_gone_130 rfl ?_
        refine r_c0_0VW (pc := 131) X rfl dX8_gone_131 tc_8_359 mm_X8_putBack (kc_80 C) rfl rfl (a_back (d + 8) C r Q0 O) (Nat.le_of_ble_eq_true rfl) (fun M131 q131 => ?_)
        refine r_iload_n (pc := 134) X dX8_gone_134 rfl ?_
        refine r_iret (pc := 135) X dX8_gone_135 rfl rfl ?_
        have hu0 : u = 0 := (nI_eq (by omega) (by omega)).mp c95
        subst hu0
        exact hΦ _ q131.1 q131.2
    · exact absurd (Nat.le_refl _) c23
  | succ m ih =>
    intro k M V B hk r hW hPV hB2 hA
    have hkl : k < (sGa σ).length := by omega
    have gk := gm.2 k hkl
    rw [hP] at gk
    have okp := play_ok (x := (pG (sGa σ) k).1) (y := (pG (sGa σ) k).2) O.ew hW (by omega) hPV gk
    have eW : ∀ M2, FA M0 M2 → M2 102 k = (pG (sGa σ) k).1 := fun M2 f => by rw [f.1 102 (by omega) (by omega) (by omega)]; exact (Q0.2.1.2.2.1.2 k hkl).1
    have eP : ∀ M2, FA M0 M2 → M2 103 k = (pG (sGa σ) k).2 := fun M2 f => by rw [f.1 103 (by omega) (by omega) (by omega)]; exact (Q0.2.1.2.2.1.2 k hkl).2
    have hA : plF (EE σ) (sGa σ) m (k + 1) (playF (EE σ) V (pG (sGa σ) k).1 (pG (sGa σ) k).2) = rr := hA
    have hk10 : k < 10 := by omega
    obtain ⟨p, e | e | ⟨hp, e⟩⟩ := gk
    · rw [e] at eW eP hA okp
      have okp : WF (B + 2) (moveF (EE σ) V).2 ∧ vP (moveF (EE σ) V).2 = P := okp
      have hA : plF (EE σ) (sGa σ) m (k + 1) (moveF (EE σ) V).2 = rr := hA
      have e0 : M 102 k = nI 0 := eW M r.2.2.2.1
      refine r_iload_n (pc := 18) X dX8_gone_18 rfl ?_
      refine r_aload_n (pc := 19) X dX8_gone_19 rfl ?_
      refine r_getiW (pc := 20) X dX8_gone_20 tf_8_132 rfl (kc_80 C) (show M 80 40 = nI (sGa σ).length from by rw [r.2.2.2.1.2 40 (by omega) (by omega)]; exact Q0.2.1.2.2.1.1) ?_
      refine r_icmp_geN (pc := 23) X dX8_gone_23 (tgt := 94) (by decide) (by omega) (by omega) (fun c23 => ?_) (fun c23 => ?_)
      · exact absurd c23 (by omega)
      · refine r_aload_n (pc := 26) X dX8_gone_26 rfl ?_
        refine r_getr (pc := 27) X dX8_gone_27 tf_8_138 rfl (kc_80 C) (rc_80_42 C) ?_
        refine r_iload_n (pc := 30) X dX8_gone_30 rfl ?_
        refine r_ialdW (pc := 31) X dX8_gone_31 (kc_102 C) rfl hk10 (by omega) e0 ?_
        refine r_if_ne (pc := 32) X dX8_gone_32 (tgt := 40) (by decide) (fun c32 => ?_) (fun c32 => ?_)
        · exact absurd rfl c32
        · refine r_aload_n (pc := 35) X dX8_gone_35 rfl ?_
          refine r_iconst (pc := 36) (v := (nI 1)) X dX8_gone_36 (by decide) ?_
          refine r_c0_1VW (pc := 37) X rfl dX8_gone_37 tc_8_356 mm_X8_goSteps (kc_80 C) rfl rfl (a_go (d + 2) 1 C r O hW (by omega) (by omega)) (Nat.le_of_ble_eq_true rfl) (fun M37 q37 => ?_)
          refine r_aload_n (pc := 40) X dX8_gone_40 rfl ?_
          refine r_getr (pc := 41) X dX8_gone_41 tf_8_138 rfl (kc_80 C) (rc_80_42 C) ?_
          refine r_iload_n (pc := 44) X dX8_gone_44 rfl ?_
          refine r_ialdW (pc := 45) X dX8_gone_45 (kc_102 C) rfl hk10 (by omega) (eW M37 q37.2.2.2.1) ?_
          refine r_iconst (pc := 46) (v := (nI 1)) X dX8_gone_46 (by decide) ?_
          refine r_icmp_ne (pc := 47) X dX8_gone_47 (tgt := 68) (by decide) (fun c47 => ?_) (fun c47 => ?_)
          · refine r_aload_n (pc := 68) X dX8_gone_68 rfl ?_
            refine r_getr (pc := 69) X dX8_gone_69 tf_8_138 rfl (kc_80 C) (rc_80_42 C) ?_
            refine r_iload_n (pc := 72) X dX8_gone_72 rfl ?_
            refine r_ialdW (pc := 73) X dX8_gone_73 (kc_102 C) rfl hk10 (by omega) (eW M37 q37.2.2.2.1) ?_
            refine r_iconst (pc := 74) (v := (nI 2)) X dX8_gone_74 (by decide) ?_
            refine r_icmp_ne (pc := 75) X dX8_gone_75 (tgt := 88) (by decide) (fun c75 => ?_) (fun c75 => ?_)
            · refine r_iinc (pc := 88) X dX8_gone_88 rfl (by first | exact nI_i1 _ | rfl) ?_
              refine r_goto (pc := 91) X dX8_gone_91 (tgt := 18) (by decide) ?_
              exact ih (k + 1) _ _ (B + 2) (by omega) q37 okp.1 okp.2 (by omega) hA
            · exact absurd (show nI 0 = nI 2 from c75) (by decide)
          · exact absurd (show nI 0 = nI 1 from c47) (by decide)
    · rw [e] at eW eP hA okp
      have okp : WF (B + 2) (vU V 0 8 (mn (nI 999) (V 0 8 + nI 10))) ∧ vP (vU V 0 8 (mn (nI 999) (V 0 8 + nI 10))) = P := okp
      have hA : plF (EE σ) (sGa σ) m (k + 1) (vU V 0 8 (mn (nI 999) (V 0 8 + nI 10))) = rr := hA
      have e0 : M 102 k = nI 1 := eW M r.2.2.2.1
      refine r_iload_n (pc := 18) X dX8_gone_18 rfl ?_
      refine r_aload_n (pc := 19) X dX8_gone_19 rfl ?_
      refine r_getiW (pc := 20) X dX8_gone_20 tf_8_132 rfl (kc_80 C) (show M 80 40 = nI (sGa σ).length from by rw [r.2.2.2.1.2 40 (by omega) (by omega)]; exact Q0.2.1.2.2.1.1) ?_
      refine r_icmp_geN (pc := 23) X dX8_gone_23 (tgt := 94) (by decide) (by omega) (by omega) (fun c23 => ?_) (fun c23 => ?_)
      · exact absurd c23 (by omega)
      · refine r_aload_n (pc := 26) X dX8_gone_26 rfl ?_
        refine r_getr (pc := 27) X dX8_gone_27 tf_8_138 rfl (kc_80 C) (rc_80_42 C) ?_
        refine r_iload_n (pc := 30) X dX8_gone_30 rfl ?_
        refine r_ialdW (pc := 31) X dX8_gone_31 (kc_102 C) rfl hk10 (by omega) e0 ?_
        refine r_if_ne (pc := 32) X dX8_gone_32 (tgt := 40) (by decide) (fun c32 => ?_) (fun c32 => ?_)
        · refine r_aload_n (pc := 40) X dX8_gone_40 rfl ?_
          refine r_getr (pc := 41) X dX8_gone_41 tf_8_138 rfl (kc_80 C) (rc_80_42 C) ?_
          refine r_iload_n (pc := 44) X dX8_gone_44 rfl ?_
          refine r_ialdW (pc := 45) X dX8_gone_45 (kc_102 C) rfl hk10 (by omega) (eW M r.2.2.2.1) ?_
          refine r_iconst (pc := 46) (v := (nI 1)) X dX8_gone_46 (by decide) ?_
          refine r_icmp_ne (pc := 47) X dX8_gone_47 (tgt := 68) (by decide) (fun c47 => ?_) (fun c47 => ?_)
          · exact absurd rfl c47
          · refine r_aload_n (pc := 50) X dX8_gone_50 rfl ?_
            refine r_aload_n (pc := 51) X dX8_gone_51 rfl ?_
            refine r_aload_n (pc := 52) X dX8_gone_52 rfl ?_
            refine r_getiW (pc := 53) X dX8_gone_53 tf_8_19 rfl (kc_80 C) (r.s.2.2.2.1) ?_
            refine r_bipush (pc := 56) (v := (nI 10)) X dX8_gone_56 (by decide) ?_
            refine r_iadd (pc := 58) X dX8_gone_58 ?_
            refine r_sipush (pc := 59) (v := (nI 999)) X dX8_gone_59 (by decide) ?_
            refine r_c0_2P (pc := 62) X rfl dX8_gone_62 tc_8_343 mm_X8_held (kc_80 C) rfl rfl (m_held (d + 8) _ (nI 999)) (Nat.le_of_ble_eq_true rfl) ?_
            obtain ⟨n8, hn8, e8⟩ := hW.2.2.2.1
            refine r_top (show heldF (V 0 8 + nI 10) (nI 999) = mn (nI 999) (V 0 8 + nI 10) by rw [e8, nI_add]; exact held_mn (by omega)) ?_
            refine r_putiW (pc := 65) X dX8_gone_65 tf_8_19 rfl (Or.inl rfl) (kc_80 C) ⟨rfl, rfl⟩ ?_
            have r65 := r.u8 (x := mn (nI 999) (V 0 8 + nI 10))
            refine r_aload_n (pc := 68) X dX8_gone_68 rfl ?_
            refine r_getr (pc := 69) X dX8_gone_69 tf_8_138 rfl (kc_80 C) (rc_80_42 C) ?_
            refine r_iload_n (pc := 72) X dX8_gone_72 rfl ?_
            refine r_ialdW (pc := 73) X dX8_gone_73 (kc_102 C) rfl hk10 (by omega) (eW (mU M 80 (upd (M 80) 3 (mn (nI 999) (V 0 8 + nI 10)))) r65.2.2.2.1) ?_
            refine r_iconst (pc := 74) (v := (nI 2)) X dX8_gone_74 (by decide) ?_
            refine r_icmp_ne (pc := 75) X dX8_gone_75 (tgt := 88) (by decide) (fun c75 => ?_) (fun c75 => ?_)
            · refine r_iinc (pc := 88) X dX8_gone_88 rfl (by first | exact nI_i1 _ | rfl) ?_
              refine r_goto (pc := 91) X dX8_gone_91 (tgt := 18) (by decide) ?_
              exact ih (k + 1) _ _ (B + 2) (by omega) r65 okp.1 okp.2 (by omega) hA
            · exact absurd (show nI 1 = nI 2 from c75) (by decide)
        · exact absurd c32 (by decide)
    · rw [e] at eW eP hA okp
      have okp : WF (B + 2) (handF V (nI p)) ∧ vP (handF V (nI p)) = P := okp
      have hA : plF (EE σ) (sGa σ) m (k + 1) (handF V (nI p)) = rr := hA
      have e0 : M 102 k = nI 2 := eW M r.2.2.2.1
      refine r_iload_n (pc := 18) X dX8_gone_18 rfl ?_
      refine r_aload_n (pc := 19) X dX8_gone_19 rfl ?_
      refine r_getiW (pc := 20) X dX8_gone_20 tf_8_132 rfl (kc_80 C) (show M 80 40 = nI (sGa σ).length from by rw [r.2.2.2.1.2 40 (by omega) (by omega)]; exact Q0.2.1.2.2.1.1) ?_
      refine r_icmp_geN (pc := 23) X dX8_gone_23 (tgt := 94) (by decide) (by omega) (by omega) (fun c23 => ?_) (fun c23 => ?_)
      · exact absurd c23 (by omega)
      · refine r_aload_n (pc := 26) X dX8_gone_26 rfl ?_
        refine r_getr (pc := 27) X dX8_gone_27 tf_8_138 rfl (kc_80 C) (rc_80_42 C) ?_
        refine r_iload_n (pc := 30) X dX8_gone_30 rfl ?_
        refine r_ialdW (pc := 31) X dX8_gone_31 (kc_102 C) rfl hk10 (by omega) e0 ?_
        refine r_if_ne (pc := 32) X dX8_gone_32 (tgt := 40) (by decide) (fun c32 => ?_) (fun c32 => ?_)
        · refine r_aload_n (pc := 40) X dX8_gone_40 rfl ?_
          refine r_getr (pc := 41) X dX8_gone_41 tf_8_138 rfl (kc_80 C) (rc_80_42 C) ?_
          refine r_iload_n (pc := 44) X dX8_gone_44 rfl ?_
          refine r_ialdW (pc := 45) X dX8_gone_45 (kc_102 C) rfl hk10 (by omega) (eW M r.2.2.2.1) ?_
          refine r_iconst (pc := 46) (v := (nI 1)) X dX8_gone_46 (by decide) ?_
          refine r_icmp_ne (pc := 47) X dX8_gone_47 (tgt := 68) (by decide) (fun c47 => ?_) (fun c47 => ?_)
          · refine r_aload_n (pc := 68) X dX8_gone_68 rfl ?_
            refine r_getr (pc := 69) X dX8_gone_69 tf_8_138 rfl (kc_80 C) (rc_80_42 C) ?_
            refine r_iload_n (pc := 72) X dX8_gone_72 rfl ?_
            refine r_ialdW (pc := 73) X dX8_gone_73 (kc_102 C) rfl hk10 (by omega) (eW M r.2.2.2.1) ?_
            refine r_iconst (pc := 74) (v := (nI 2)) X dX8_gone_74 (by decide) ?_
            refine r_icmp_ne (pc := 75) X dX8_gone_75 (tgt := 88) (by decide) (fun c75 => ?_) (fun c75 => ?_)
            · exact absurd rfl c75
            · refine r_aload_n (pc := 78) X dX8_gone_78 rfl ?_
              refine r_aload_n (pc := 79) X dX8_gone_79 rfl ?_
              refine r_getr (pc := 80) X dX8_gone_80 tf_8_141 rfl (kc_80 C) (rc_80_43 C) ?_
              refine r_iload_n (pc := 83) X dX8_gone_83 rfl ?_
              refine r_ialdW (pc := 84) X dX8_gone_84 (kc_103 C) rfl hk10 (by omega) (eP M r.2.2.2.1) ?_
              refine r_c0_1VW (pc := 85) X rfl dX8_gone_85 tc_8_250 mm_X8_gives (kc_80 C) rfl rfl (a_gives (d + 8) C r hW (show p < vP V by omega)) (Nat.le_of_ble_eq_true rfl) (fun M85 q85 => ?_)
              refine r_iinc (pc := 88) X dX8_gone_88 rfl (by first | exact nI_i1 _ | rfl) ?_
              refine r_goto (pc := 91) X dX8_gone_91 (tgt := 18) (by decide) ?_
              exact ih (k + 1) _ _ (B + 2) (by omega) q85 okp.1 okp.2 (by omega) hA
          · exact absurd (show nI 2 = nI 1 from c47) (by decide)
        · exact absurd c32 (by decide)
set_option maxRecDepth 10000 in
set_option maxHeartbeats 4000000 in
theorem n_gone : ∀ (d : Nat) (x : Int32) {σ : SG} {h : hp_T} {M : Mem} {B0 : Nat} (C : CS h) (Q : MRep σ M (h_l h)) (O : OK B0 σ) (hB : B0 + 2000 ≤ 1000000), Ex (d + 9) nX8_gone [.ref 80, .int x] (wi h M) 0 0 (QM (f_gone σ x) h M) := by
  intro d x σ h M B0 C Q O hB
  refine Ex.of mm_X8_gone (Nat.le_of_ble_eq_true rfl) fun w κ X hk hnm => ?_
  refine r_aload_n (pc := 0) X dX8_gone_0 rfl ?_
  refine r_iload_n (pc := 1) X dX8_gone_1 rfl ?_
  refine r_iconst (pc := 2) (v := (nI 0)) X dX8_gone_2 (by decide) ?_
  refine r_iconst (pc := 3) (v := (nI 2)) X dX8_gone_3 (by decide) ?_
  refine r_c0_3P (pc := 4) X rfl dX8_gone_4 tc_8_236 mm_X8_in (kc_80 C) rfl rfl (m_in (d + 8) x (nI 0) (nI 2)) (Nat.le_of_ble_eq_true rfl) ?_
  refine r_if_neB (pc := 7) X dX8_gone_7 (tgt := 12) (by decide) (fun c7 => ?_) (fun c7 => ?_)
  · refine r_aload_n (pc := 12) X dX8_gone_12 rfl ?_
    refine r_c0_0VW (pc := 13) X rfl dX8_gone_13 tc_8_353 mm_X8_save (kc_80 C) rfl rfl (a_save (d + 8) C Q O) (Nat.le_of_ble_eq_true rfl) (fun M13 q13 => ?_)
    refine r_iconst (pc := 16) (v := (nI 0)) X dX8_gone_16 (by decide) ?_
    refine r_istore_n (pc := 17) X dX8_gone_17 (Nat.le_of_ble_eq_true rfl) ?_
    have gm := O.gm.1
    refine lm_gone d C O hB X rfl Q c7 (fun M1 Q1 F1 => ⟨QM.mk ?_ Q1 F1, rfl⟩) (sGa σ).length 0 M13 _ B0 (by omega) q13 O.w rfl (by omega) rfl
    simp (decide := true) [f_gone, c7]
  · refine r_iconst (pc := 10) (v := (-1)) X dX8_gone_10 (by decide) ?_
    refine r_iret (pc := 11) X dX8_gone_11 rfl rfl ?_
    refine ⟨QM.mk (σ1 := σ) ?_ Q FM.rf, rfl⟩
    simp (decide := true) [f_gone, c7]
