/-! mute, seen, odds, mean, games -/
theorem mk_and : ∀ n, n < 64 → ∀ k, k < 6 → ∃ m, m < 64 ∧ nI n &&& (nI 1 <<< (nI k &&& 31) ^^^ (-1)) = nI m := by decide +kernel
theorem mk_m1 : ∀ n, n < 64 → nI n &&& (-1) = nI n := by decide +kernel
theorem mk_or : ∀ n, n < 64 → ∀ k, k < 6 → ∃ m, m < 64 ∧ nI n ||| nI 1 <<< (nI k &&& 31) = nI m := by decide +kernel
theorem mk_o0 : ∀ n, n < 64 → nI n ||| nI 0 = nI n := by decide +kernel
theorem mk_1 : ∀ k, k < 7 → ∃ m, m < 64 ∧ nI 1 <<< (nI k &&& 31) - nI 1 = nI m := by decide +kernel
set_option maxRecDepth 10000 in
set_option maxHeartbeats 4000000 in
theorem lm_muI : ∀ (d : Nat) {σ : SG} {h : hp_T} {M0 : Mem} {B0 : Nat} (C : CS h) (O : OK B0 σ) (hB : B0 + 2000 ≤ 1000000) {w : wc_T} {κ : cx_T} {Φ : Option Value → hp_T → Prop} (X : CX w κ (d + 9) 8 cX8_mute 5 (some .int) Φ) {P n k0 : Nat} {G : VT} (hP : vP (sV σ) = P) {rr : Int32} {M : Mem} (r : RS σ M0 M G) (hG : ∀ p, p < 6 → sV σ 5 p ≤ G 5 p)
    (hT : ∀ z n2, n2 < 64 → rr = nI n2 → GG w κ 92 [some (.ref 80), some (.int (nI n)), some (.int rr), some (.int (nI k0)), z] [] (wi h M)),
    ∀ (m : Nat) (k : Nat) (sn : Nat), k + m = P → sn < 64 → muI G (sV σ) m k (nI sn) = rr → GG w κ 47 [some (.ref 80), some (.int (nI n)), some (.int (nI sn)), some (.int (nI k0)), some (.int (nI k))] [] (wi h M) := by
  intro d σ h M0 B0 C O hB w κ Φ X P n k0 G hP rr M r hG hT m
  have h6 := O.w.2.1
  subst hP
  induction m with
  | zero =>
    intro k sn hk hs hA
    have e : k = vP (sV σ) := by omega
    subst e
    subst hA
    refine r_iload (pc := 47) X dX8_mute_47 rfl ?_
    refine r_aload_n (pc := 49) X dX8_mute_49 rfl ?_
    refine r_getiW (pc := 50) X dX8_mute_50 tf_8_7 rfl (kc_80 C) (r.pp O) ?_
    refine r_icmp_geN (pc := 53) X dX8_mute_53 (tgt := 92) (by decide) (by omega) (by omega) (fun c53 => ?_) (fun c53 => ?_)
    · exact hT _ sn hs rfl
    · exact absurd (Nat.le_refl _) c53
  | succ m ih =>
    intro k sn hk hs hA
    have hk6 : k < 6 := by omega
    refine r_iload (pc := 47) X dX8_mute_47 rfl ?_
    refine r_aload_n (pc := 49) X dX8_mute_49 rfl ?_
    refine r_getiW (pc := 50) X dX8_mute_50 tf_8_7 rfl (kc_80 C) (r.pp O) ?_
    refine r_icmp_geN (pc := 53) X dX8_mute_53 (tgt := 92) (by decide) (by omega) (by omega) (fun c53 => ?_) (fun c53 => ?_)
    · exact absurd c53 (by omega)
    · refine r_iload_n (pc := 56) X dX8_mute_56 rfl ?_
      refine r_aload_n (pc := 57) X dX8_mute_57 rfl ?_
      refine r_getr (pc := 58) X dX8_mute_58 tf_8_38 rfl (kc_80 C) (rc_80_9 C) ?_
      refine r_iload (pc := 61) X dX8_mute_61 rfl ?_
      refine r_ialdW (pc := 63) X dX8_mute_63 (kc_85 C) rfl hk6 (by omega) (r.a5 k) ?_
      refine r_aload_n (pc := 64) X dX8_mute_64 rfl ?_
      refine r_getr (pc := 65) X dX8_mute_65 tf_8_120 rfl (kc_80 C) (rc_80_36 C) ?_
      refine r_iload (pc := 68) X dX8_mute_68 rfl ?_
      refine r_ialdW (pc := 70) X dX8_mute_70 (kc_99 C) rfl hk6 (by omega) (r.k5 hk6) ?_
      refine r_icmp_le (pc := 71) X dX8_mute_71 (tgt := 83) (by decide) (fun c71 => ?_) (fun c71 => ?_)
      · refine r_iconst (pc := 83) (v := (-1)) X dX8_mute_83 (by decide) ?_
        refine r_iand (pc := 84) X dX8_mute_84 ?_
        refine r_istore_n (pc := 85) X dX8_mute_85 (Nat.le_of_ble_eq_true rfl) ?_
        refine r_iinc (pc := 86) X dX8_mute_86 rfl (by first | exact nI_i1 _ | rfl) ?_
        refine r_goto (pc := 89) X dX8_mute_89 (tgt := 47) (by decide) ?_
        rw [mk_m1 sn hs]
        exact ih (k + 1) sn (by omega) hs ((if_pos (Int32.le_antisymm c71 (hG k hk6))).symm.trans hA)
      · refine r_iconst (pc := 74) (v := (nI 1)) X dX8_mute_74 (by decide) ?_
        refine r_iload (pc := 75) X dX8_mute_75 rfl ?_
        refine r_ishl (pc := 77) X dX8_mute_77 ?_
        refine r_iconst (pc := 78) (v := (-1)) X dX8_mute_78 (by decide) ?_
        refine r_ixor (pc := 79) X dX8_mute_79 ?_
        refine r_goto (pc := 80) X dX8_mute_80 (tgt := 84) (by decide) ?_
        refine r_iand (pc := 84) X dX8_mute_84 ?_
        refine r_istore_n (pc := 85) X dX8_mute_85 (Nat.le_of_ble_eq_true rfl) ?_
        refine r_iinc (pc := 86) X dX8_mute_86 rfl (by first | exact nI_i1 _ | rfl) ?_
        refine r_goto (pc := 89) X dX8_mute_89 (tgt := 47) (by decide) ?_
        obtain ⟨n2, hn2, e2⟩ := mk_and sn hs k hk6
        rw [e2]
        exact ih (k + 1) n2 (by omega) hn2 (by rw [← e2]; exact (if_neg (fun z => c71 (by rw [z]; exact Int32.le_refl _))).symm.trans hA)
set_option maxRecDepth 10000 in
set_option maxHeartbeats 4000000 in
theorem lm_muO : ∀ (d : Nat) {σ : SG} {h : hp_T} {M0 : Mem} {B0 : Nat} (C : CS h) (O : OK B0 σ) (hB : B0 + 2000 ≤ 1000000) {w : wc_T} {κ : cx_T} {Φ : Option Value → hp_T → Prop} (X : CX w κ (d + 9) 8 cX8_mute 5 (some .int) Φ) {P n : Nat} (hP : vP (sV σ) = P) (hn : n ≤ 60) {F : Nat → VT} (hF : F = fun k => goF (EE σ) n (handF (sV σ) (nI k))) {rr : Int32}
    (hΦ : ∀ M1, MRep σ M1 (h_l h) → FM h M0 (h_l h) M1 → Φ (some (.int rr)) (wi h M1)),
    ∀ (m : Nat) (k : Nat) (M : Mem) (sn : Nat) (z : Option Value), k + m = P → sn < 64 → MRep σ M (h_l h) → FM h M0 (h_l h) M → muO F (sV σ) P m k (nI sn) = rr → GG w κ 22 [some (.ref 80), some (.int (nI n)), some (.int (nI sn)), some (.int (nI k)), z] [] (wi h M) := by
  intro d σ h M0 B0 C O hB w κ Φ X P n hP hn F hF rr hΦ m
  have h6 := O.w.2.1
  subst hP
  induction m with
  | zero =>
    intro k M sn z hk hs Q F hA
    have e : k = vP (sV σ) := by omega
    subst e
    subst hA
    refine r_iload_n (pc := 22) X dX8_mute_22 rfl ?_
    refine r_aload_n (pc := 23) X dX8_mute_23 rfl ?_
    refine r_getiW (pc := 24) X dX8_mute_24 tf_8_7 rfl (kc_80 C) (Q.pp O) ?_
    refine r_icmp_geN (pc := 27) X dX8_mute_27 (tgt := 102) (by decide) (by omega) (by omega) (fun c27 => ?_) (fun c27 => ?_)
    · refine r_iload_n (pc := 102) X dX8_mute_102 rfl ?_
      refine r_iret (pc := 103) X dX8_mute_103 rfl rfl ?_
      exact hΦ M Q F
    · exact absurd (Nat.le_refl _) c27
  | succ m ih =>
    intro k M sn z hk hs Q F hA
    subst hF
    have hkp : k < vP (sV σ) := by omega
    have hW1 := O.w.handN hkp
    have hG : ∀ p, p < 6 → sV σ 5 p ≤ goF (EE σ) n (handF (sV σ) (nI k)) 5 p := fun p hp => by
      have := go_said O.ew n _ B0 hW1 (by omega) p hp
      unfold handF at this ⊢
      rw [vU_ne (by omega), vU_ne (by omega)] at this
      exact this
    refine r_iload_n (pc := 22) X dX8_mute_22 rfl ?_
    refine r_aload_n (pc := 23) X dX8_mute_23 rfl ?_
    refine r_getiW (pc := 24) X dX8_mute_24 tf_8_7 rfl (kc_80 C) (Q.pp O) ?_
    refine r_icmp_geN (pc := 27) X dX8_mute_27 (tgt := 102) (by decide) (by omega) (by omega) (fun c27 => ?_) (fun c27 => ?_)
    · exact absurd c27 (by omega)
    · refine r_aload_n (pc := 30) X dX8_mute_30 rfl ?_
      refine r_c0_0VW (pc := 31) X rfl dX8_mute_31 tc_8_353 mm_X8_save (kc_80 C) rfl rfl (a_save (d + 8) C Q O) (Nat.le_of_ble_eq_true rfl) (fun M31 q31 => ?_)
      refine r_aload_n (pc := 34) X dX8_mute_34 rfl ?_
      refine r_iload_n (pc := 35) X dX8_mute_35 rfl ?_
      refine r_c0_1VW (pc := 36) X rfl dX8_mute_36 tc_8_250 mm_X8_gives (kc_80 C) rfl rfl (a_gives (d + 8) C q31 O.w hkp) (Nat.le_of_ble_eq_true rfl) (fun M36 q36 => ?_)
      refine r_aload_n (pc := 39) X dX8_mute_39 rfl ?_
      refine r_iload_n (pc := 40) X dX8_mute_40 rfl ?_
      refine r_c0_1VW (pc := 41) X rfl dX8_mute_41 tc_8_356 mm_X8_goSteps (kc_80 C) rfl rfl (a_go (d + 2) n C q36 O hW1 (by omega) (by omega)) (Nat.le_of_ble_eq_true rfl) (fun M41 q41 => ?_)
      refine r_iconst (pc := 44) (v := (nI 0)) X dX8_mute_44 (by decide) ?_
      refine r_istore (pc := 45) X dX8_mute_45 (Nat.le_of_ble_eq_true rfl) ?_
      refine lm_muI (M0 := M) d C O hB X rfl q41 hG (fun z2 n2 hn2 e2 => ?_) (vP (sV σ)) 0 sn (by omega) hs rfl
      refine r_aload_n (pc := 92) X dX8_mute_92 rfl ?_
      refine r_c0_0VW (pc := 93) X rfl dX8_mute_93 tc_8_359 mm_X8_putBack (kc_80 C) rfl rfl (a_back (d + 8) C q41 Q O) (Nat.le_of_ble_eq_true rfl) (fun M93 q93 => ?_)
      obtain ⟨Q1, F1⟩ := q93
      refine r_iinc (pc := 96) X dX8_mute_96 rfl (by first | exact nI_i1 _ | rfl) ?_
      refine r_goto (pc := 99) X dX8_mute_99 (tgt := 22) (by decide) ?_
      rw [e2]
      exact ih (k + 1) M93 n2 _ (by omega) hn2 Q1 (F.tr F1) (by rw [← e2]; exact hA)
set_option maxRecDepth 10000 in
set_option maxHeartbeats 4000000 in
theorem n_mute : ∀ (d : Nat) (n : Int32) {σ : SG} {h : hp_T} {M : Mem} {B0 : Nat} (C : CS h) (Q : MRep σ M (h_l h)) (O : OK B0 σ) (hB : B0 + 2000 ≤ 1000000), Ex (d + 9) nX8_mute [.ref 80, .int n] (wi h M) 0 0 (QM (f_mute σ n) h M) := by
  intro d n σ h M B0 C Q O hB
  refine Ex.of mm_X8_mute (Nat.le_of_ble_eq_true rfl) fun w κ X hk hnm => ?_
  refine r_aload_n (pc := 0) X dX8_mute_0 rfl ?_
  refine r_iload_n (pc := 1) X dX8_mute_1 rfl ?_
  refine r_c0_1P (pc := 2) X rfl dX8_mute_2 tc_8_368 mm_X8_isFew (kc_80 C) rfl rfl (m_isFew (d + 7) n C) (Nat.le_of_ble_eq_true rfl) ?_
  refine r_if_neB (pc := 5) X dX8_mute_5 (tgt := 11) (by decide) (fun c5 => ?_) (fun c5 => ?_)
  · obtain ⟨t, ht0, ht, rfl⟩ := inF_lo c5 (by omega) (by omega)
    have ct := nI_clamp (show t < 2 ^ 31 by omega)
    have h6 := O.w.2.1
    obtain ⟨s0, hs0, es0⟩ := mk_1 (vP (sV σ)) (by omega)
    refine r_iconst (pc := 11) (v := (nI 1)) X dX8_mute_11 (by decide) ?_
    refine r_aload_n (pc := 12) X dX8_mute_12 rfl ?_
    refine r_getiW (pc := 13) X dX8_mute_13 tf_8_7 rfl (kc_80 C) (Q.pp O) ?_
    refine r_ishl (pc := 16) X dX8_mute_16 ?_
    refine r_iconst (pc := 17) (v := (nI 1)) X dX8_mute_17 (by decide) ?_
    refine r_isub (pc := 18) X dX8_mute_18 ?_
    refine r_top es0 ?_
    refine r_istore_n (pc := 19) X dX8_mute_19 (Nat.le_of_ble_eq_true rfl) ?_
    refine r_iconst (pc := 20) (v := (nI 0)) X dX8_mute_20 (by decide) ?_
    refine r_istore_n (pc := 21) X dX8_mute_21 (Nat.le_of_ble_eq_true rfl) ?_
    refine lm_muO d C O hB X rfl ht rfl (fun M1 Q1 F1 => ⟨QM.mk ?_ Q1 F1, rfl⟩) (vP (sV σ)) 0 M s0 _ (by omega) hs0 Q FM.rf rfl
    rw [← es0]
    simp (decide := true) [f_mute, c5, ct]
  · refine r_bipush (pc := 8) (v := (-2)) X dX8_mute_8 (by decide) ?_
    refine r_iret (pc := 10) X dX8_mute_10 rfl rfl ?_
    refine ⟨QM.mk (σ1 := σ) ?_ Q FM.rf, rfl⟩
    simp (decide := true) [f_mute, c5]
theorem bk_eq {V : VT} {p : Nat} (hp : p < 6) : bkF V = nI p ↔ holdF V = nI p := by
  unfold bkF holdF
  by_cases c : V 0 6 = 0
  · rw [if_pos c, if_pos c]
    have key : ∀ p, p < 6 → (((-1 : Int32) = nI p) ↔ ((-5 : Int32) = nI p)) := by decide
    exact key p hp
  · rw [if_neg c, if_neg c]
theorem so_snoc {E : EV} {l : PL} {V : VT} {k : Nat} (h : k < l.length) : soF E (l.take (k + 1)) V = (soF E (l.take k) V && decide (holdF (goF E (pG l k).2.toNatClampNeg V) = (pG l k).1)) := by
  unfold soF
  rw [List.take_succ, List.getElem?_eq_getElem h, List.all_append]
  have e : pG l k = l[k] := by
    unfold pG
    rw [List.getD_eq_getElem?_getD, List.getElem?_eq_getElem h]
    rfl
  rw [e]
  simp
theorem so_false {E : EV} {l : PL} {V : VT} {k : Nat} (h : soF E (l.take k) V = false) : soF E l V = false := by
  cases e : soF E l V with
  | false => rfl
  | true =>
    have : soF E (l.take k) V = true := List.all_eq_true.mpr fun q hq => List.all_eq_true.mp e q (List.mem_of_mem_take hq)
    rw [this] at h
    cases h
set_option maxRecDepth 10000 in
set_option maxHeartbeats 4000000 in
theorem lm_seena : ∀ (d : Nat) {σ : SG} {h : hp_T} {M0 : Mem} {B0 : Nat} (C : CS h) (O : OK B0 σ) (hB : B0 + 2000 ≤ 1000000) {w : wc_T} {κ : cx_T} {Φ : Option Value → hp_T → Prop} (X : CX w κ (d + 7) 8 cX8_isSeen 4 (some .boolean) Φ) {P : Nat} (hP : vP (sV σ) = P)
    (hΦ : ∀ M1, MRep σ M1 (h_l h) → FM h M0 (h_l h) M1 → Φ (some (.int (b2 (soF (EE σ) (sSe σ) (sV σ))))) (wi h M1)),
    ∀ (m : Nat) (k : Nat) (M : Mem) (iz : Bool), k + m = (sSe σ).length → MRep σ M (h_l h) → FM h M0 (h_l h) M → soF (EE σ) ((sSe σ).take k) (sV σ) = iz → GG w κ 4 [some (.ref 80), some (.int (-1)), some (.int (b2 iz)), some (.int (nI k))] [] (wi h M) := by
  intro d σ h M0 B0 C O hB w κ Φ X P hP hΦ m
  have h6 := O.w.2.1
  have hl := O.sn
  have hl6 := hl.1
  induction m with
  | zero =>
    intro k M iz hk Q F hA
    have e : k = (sSe σ).length := by omega
    subst e
    rw [List.take_length] at hA
    subst hA
    refine r_iload_n (pc := 4) X dX8_isSeen_4 rfl ?_
    refine r_aload_n (pc := 5) X dX8_isSeen_5 rfl ?_
    refine r_getiW (pc := 6) X dX8_isSeen_6 tf_8_123 rfl (kc_80 C) (show M 80 37 = nI (sSe σ).length from Q.2.1.2.1.1) ?_
    refine r_icmp_geN (pc := 9) X dX8_isSeen_9 (tgt := 68) (by decide) (by omega) (by omega) (fun c9 => ?_) (fun c9 => ?_)
    · refine r_iload_n (pc := 68) X dX8_isSeen_68 rfl ?_
      refine r_iret (pc := 69) X dX8_isSeen_69 rfl (b2_nar _) ?_
      exact hΦ M Q F
    · exact absurd (Nat.le_refl _) c9
  | succ m ih =>
    intro k M iz hk Q F hA
    have hkl : k < (sSe σ).length := by omega
    obtain ⟨p2, n2, hp2, hn2, e2⟩ := hl.2 k hkl
    have es := so_snoc (E := EE σ) (V := (sV σ)) hkl
    rw [e2, nI_clamp (by omega)] at es
    have eW : M 100 k = nI p2 := by rw [(Q.2.1.2.1.2 k hkl).1]; exact congrArg Prod.fst e2
    have eN : M 101 k = nI n2 := by rw [(Q.2.1.2.1.2 k hkl).2]; exact congrArg Prod.snd e2
    subst hA
    refine r_iload_n (pc := 4) X dX8_isSeen_4 rfl ?_
    refine r_aload_n (pc := 5) X dX8_isSeen_5 rfl ?_
    refine r_getiW (pc := 6) X dX8_isSeen_6 tf_8_123 rfl (kc_80 C) (show M 80 37 = nI (sSe σ).length from Q.2.1.2.1.1) ?_
    refine r_icmp_geN (pc := 9) X dX8_isSeen_9 (tgt := 68) (by decide) (by omega) (by omega) (fun c9 => ?_) (fun c9 => ?_)
    · exact absurd c9 (by omega)
    · refine r_iload_n (pc := 12) X dX8_isSeen_12 rfl ?_
      refine r_if_eqB (pc := 13) X dX8_isSeen_13 (tgt := 68) (by decide) (fun c13 => ?_) (fun c13 => ?_)
      · refine r_iload_n (pc := 68) X dX8_isSeen_68 rfl ?_
        refine r_iret (pc := 69) X dX8_isSeen_69 rfl (b2_nar _) ?_
        have e9 := so_false c13
        have := hΦ M Q F
        rw [e9] at this
        rw [c13]
        exact this
      · refine r_aload_n (pc := 16) X dX8_isSeen_16 rfl ?_
        refine r_c0_0VW (pc := 17) X rfl dX8_isSeen_17 tc_8_353 mm_X8_save (kc_80 C) rfl rfl (a_save (d + 6) C Q O) (Nat.le_of_ble_eq_true rfl) (fun M17 q17 => ?_)
        refine r_iload_n (pc := 20) X dX8_isSeen_20 rfl ?_
        refine r_if_lt (pc := 21) X dX8_isSeen_21 (tgt := 29) (by decide) (fun c21 => ?_) (fun c21 => ?_)
        · refine r_aload_n (pc := 29) X dX8_isSeen_29 rfl ?_
          refine r_aload_n (pc := 30) X dX8_isSeen_30 rfl ?_
          refine r_getr (pc := 31) X dX8_isSeen_31 tf_8_129 rfl (kc_80 C) (rc_80_39 C) ?_
          refine r_iload_n (pc := 34) X dX8_isSeen_34 rfl ?_
          refine r_ialdW (pc := 35) X dX8_isSeen_35 (kc_101 C) rfl (show k < 6 by omega) (by omega) (show M17 101 k = nI n2 from (by rw [q17.2.2.2.1.1 101 (by omega) (by omega) (by omega)]; exact eN)) ?_
          refine r_c0_1VW (pc := 36) X rfl dX8_isSeen_36 tc_8_356 mm_X8_goSteps (kc_80 C) rfl rfl (a_go d n2 C q17 O O.w (by omega) (by omega)) (Nat.le_of_ble_eq_true rfl) (fun M36 q36 => ?_)
          refine r_aload_n (pc := 39) X dX8_isSeen_39 rfl ?_
          refine r_getiW (pc := 40) X dX8_isSeen_40 tf_8_16 rfl (kc_80 C) (q36.s.2.2.1) ?_
          refine r_aload_n (pc := 43) X dX8_isSeen_43 rfl ?_
          refine r_getr (pc := 44) X dX8_isSeen_44 tf_8_126 rfl (kc_80 C) (rc_80_38 C) ?_
          refine r_iload_n (pc := 47) X dX8_isSeen_47 rfl ?_
          refine r_ialdW (pc := 48) X dX8_isSeen_48 (kc_100 C) rfl (show k < 6 by omega) (by omega) (show M36 100 k = nI p2 from (by rw [q36.2.2.2.1.1 100 (by omega) (by omega) (by omega)]; exact eW)) ?_
          refine r_icmp_ne (pc := 49) X dX8_isSeen_49 (tgt := 56) (by decide) (fun c49 => ?_) (fun c49 => ?_)
          · refine r_iconst (pc := 56) (v := (nI 0)) X dX8_isSeen_56 (by decide) ?_
            refine r_istore_n (pc := 57) X dX8_isSeen_57 (Nat.le_of_ble_eq_true rfl) ?_
            refine r_aload_n (pc := 58) X dX8_isSeen_58 rfl ?_
            refine r_c0_0VW (pc := 59) X rfl dX8_isSeen_59 tc_8_359 mm_X8_putBack (kc_80 C) rfl rfl (a_back (d + 6) C q36 Q O) (Nat.le_of_ble_eq_true rfl) (fun M59 q59 => ?_)
            obtain ⟨Q1, F1⟩ := q59
            refine r_iinc (pc := 62) X dX8_isSeen_62 rfl (by first | exact nI_i1 _ | rfl) ?_
            refine r_goto (pc := 65) X dX8_isSeen_65 (tgt := 4) (by decide) ?_
            exact ih (k + 1) M59 false (by omega) Q1 (F.tr F1) (by rw [es, c13]; exact decide_eq_false (fun z => c49 ((bk_eq (by omega)).mpr z)))
          · refine r_iconst (pc := 52) (v := (nI 1)) X dX8_isSeen_52 (by decide) ?_
            refine r_goto (pc := 53) X dX8_isSeen_53 (tgt := 57) (by decide) ?_
            refine r_istore_n (pc := 57) X dX8_isSeen_57 (Nat.le_of_ble_eq_true rfl) ?_
            refine r_aload_n (pc := 58) X dX8_isSeen_58 rfl ?_
            refine r_c0_0VW (pc := 59) X rfl dX8_isSeen_59 tc_8_359 mm_X8_putBack (kc_80 C) rfl rfl (a_back (d + 6) C q36 Q O) (Nat.le_of_ble_eq_true rfl) (fun M59 q59 => ?_)
            obtain ⟨Q1, F1⟩ := q59
            refine r_iinc (pc := 62) X dX8_isSeen_62 rfl (by first | exact nI_i1 _ | rfl) ?_
            refine r_goto (pc := 65) X dX8_isSeen_65 (tgt := 4) (by decide) ?_
            exact ih (k + 1) M59 true (by omega) Q1 (F.tr F1) (by rw [es, c13]; exact decide_eq_true ((bk_eq (by omega)).mp c49))
        · exact absurd (show (-1 : Int32) < 0 by decide) c21
set_option maxRecDepth 10000 in
set_option maxHeartbeats 4000000 in
theorem m_seena : ∀ (d : Nat) {σ : SG} {h : hp_T} {M : Mem} {B0 : Nat} (C : CS h) (Q : MRep σ M (h_l h)) (O : OK B0 σ) (hB : B0 + 2000 ≤ 1000000) , Ei (d + 7) nX8_isSeen [.ref 80, .int (-1)] (wi h M) (fun r M1 => r = b2 (soF (EE σ) (sSe σ) (sV σ)) ∧ MRep σ M1 (h_l h) ∧ FM h M (h_l h) M1) := by
  intro d σ h M B0 C Q O hB 
  refine Ex.of mm_X8_isSeen (Nat.le_of_ble_eq_true rfl) fun w κ X hk hnm => ?_
  refine r_iconst (pc := 0) (v := (nI 1)) X dX8_isSeen_0 (by decide) ?_
  refine r_istore_n (pc := 1) X dX8_isSeen_1 (Nat.le_of_ble_eq_true rfl) ?_
  refine r_iconst (pc := 2) (v := (nI 0)) X dX8_isSeen_2 (by decide) ?_
  refine r_istore_n (pc := 3) X dX8_isSeen_3 (Nat.le_of_ble_eq_true rfl) ?_
  exact lm_seena d C O hB X rfl (fun M1 Q1 F1 => ⟨⟨_, M1, rfl, rfl, rfl, Q1, F1⟩, rfl⟩) (sSe σ).length 0 M true (by omega) Q FM.rf rfl
set_option maxRecDepth 10000 in
set_option maxHeartbeats 4000000 in
theorem lm_seenb : ∀ (d : Nat) {σ : SG} {h : hp_T} {M0 : Mem} {B0 : Nat} (C : CS h) (O : OK B0 σ) (hB : B0 + 2000 ≤ 1000000) {w : wc_T} {κ : cx_T} {Φ : Option Value → hp_T → Prop} (X : CX w κ (d + 7) 8 cX8_isSeen 4 (some .boolean) Φ) {p : Nat} (hp : p < vP (sV σ)) {P : Nat} (hP : vP (sV σ) = P)
    (hΦ : ∀ M1, MRep σ M1 (h_l h) → FM h M0 (h_l h) M1 → Φ (some (.int (b2 (soF (EE σ) (sSe σ) (handF (sV σ) (nI p)))))) (wi h M1)),
    ∀ (m : Nat) (k : Nat) (M : Mem) (iz : Bool), k + m = (sSe σ).length → MRep σ M (h_l h) → FM h M0 (h_l h) M → soF (EE σ) ((sSe σ).take k) (handF (sV σ) (nI p)) = iz → GG w κ 4 [some (.ref 80), some (.int (nI p)), some (.int (b2 iz)), some (.int (nI k))] [] (wi h M) := by
  intro d σ h M0 B0 C O hB w κ Φ X p hp P hP hΦ m
  have h6 := O.w.2.1
  have hl := O.sn
  have hl6 := hl.1
  induction m with
  | zero =>
    intro k M iz hk Q F hA
    have e : k = (sSe σ).length := by omega
    subst e
    rw [List.take_length] at hA
    subst hA
    refine r_iload_n (pc := 4) X dX8_isSeen_4 rfl ?_
    refine r_aload_n (pc := 5) X dX8_isSeen_5 rfl ?_
    refine r_getiW (pc := 6) X dX8_isSeen_6 tf_8_123 rfl (kc_80 C) (show M 80 37 = nI (sSe σ).length from Q.2.1.2.1.1) ?_
    refine r_icmp_geN (pc := 9) X dX8_isSeen_9 (tgt := 68) (by decide) (by omega) (by omega) (fun c9 => ?_) (fun c9 => ?_)
    · refine r_iload_n (pc := 68) X dX8_isSeen_68 rfl ?_
      refine r_iret (pc := 69) X dX8_isSeen_69 rfl (b2_nar _) ?_
      exact hΦ M Q F
    · exact absurd (Nat.le_refl _) c9
  | succ m ih =>
    intro k M iz hk Q F hA
    have hkl : k < (sSe σ).length := by omega
    obtain ⟨p2, n2, hp2, hn2, e2⟩ := hl.2 k hkl
    have es := so_snoc (E := EE σ) (V := (handF (sV σ) (nI p))) hkl
    rw [e2, nI_clamp (by omega)] at es
    have eW : M 100 k = nI p2 := by rw [(Q.2.1.2.1.2 k hkl).1]; exact congrArg Prod.fst e2
    have eN : M 101 k = nI n2 := by rw [(Q.2.1.2.1.2 k hkl).2]; exact congrArg Prod.snd e2
    subst hA
    refine r_iload_n (pc := 4) X dX8_isSeen_4 rfl ?_
    refine r_aload_n (pc := 5) X dX8_isSeen_5 rfl ?_
    refine r_getiW (pc := 6) X dX8_isSeen_6 tf_8_123 rfl (kc_80 C) (show M 80 37 = nI (sSe σ).length from Q.2.1.2.1.1) ?_
    refine r_icmp_geN (pc := 9) X dX8_isSeen_9 (tgt := 68) (by decide) (by omega) (by omega) (fun c9 => ?_) (fun c9 => ?_)
    · exact absurd c9 (by omega)
    · refine r_iload_n (pc := 12) X dX8_isSeen_12 rfl ?_
      refine r_if_eqB (pc := 13) X dX8_isSeen_13 (tgt := 68) (by decide) (fun c13 => ?_) (fun c13 => ?_)
      · refine r_iload_n (pc := 68) X dX8_isSeen_68 rfl ?_
        refine r_iret (pc := 69) X dX8_isSeen_69 rfl (b2_nar _) ?_
        have e9 := so_false c13
        have := hΦ M Q F
        rw [e9] at this
        rw [c13]
        exact this
      · refine r_aload_n (pc := 16) X dX8_isSeen_16 rfl ?_
        refine r_c0_0VW (pc := 17) X rfl dX8_isSeen_17 tc_8_353 mm_X8_save (kc_80 C) rfl rfl (a_save (d + 6) C Q O) (Nat.le_of_ble_eq_true rfl) (fun M17 q17 => ?_)
        refine r_iload_n (pc := 20) X dX8_isSeen_20 rfl ?_
        refine r_if_lt (pc := 21) X dX8_isSeen_21 (tgt := 29) (by decide) (fun c21 => ?_) (fun c21 => ?_)
        · exact absurd c21 (nI_pos (by omega))
        · refine r_aload_n (pc := 24) X dX8_isSeen_24 rfl ?_
          refine r_iload_n (pc := 25) X dX8_isSeen_25 rfl ?_
          refine r_c0_1VW (pc := 26) X rfl dX8_isSeen_26 tc_8_250 mm_X8_gives (kc_80 C) rfl rfl (a_gives (d + 6) C q17 O.w hp) (Nat.le_of_ble_eq_true rfl) (fun M26 q26 => ?_)
          refine r_aload_n (pc := 29) X dX8_isSeen_29 rfl ?_
          refine r_aload_n (pc := 30) X dX8_isSeen_30 rfl ?_
          refine r_getr (pc := 31) X dX8_isSeen_31 tf_8_129 rfl (kc_80 C) (rc_80_39 C) ?_
          refine r_iload_n (pc := 34) X dX8_isSeen_34 rfl ?_
          refine r_ialdW (pc := 35) X dX8_isSeen_35 (kc_101 C) rfl (show k < 6 by omega) (by omega) (show M26 101 k = nI n2 from (by rw [q26.2.2.2.1.1 101 (by omega) (by omega) (by omega)]; exact eN)) ?_
          refine r_c0_1VW (pc := 36) X rfl dX8_isSeen_36 tc_8_356 mm_X8_goSteps (kc_80 C) rfl rfl (a_go d n2 C q26 O (O.w.handN hp) (by omega) (by omega)) (Nat.le_of_ble_eq_true rfl) (fun M36 q36 => ?_)
          refine r_aload_n (pc := 39) X dX8_isSeen_39 rfl ?_
          refine r_getiW (pc := 40) X dX8_isSeen_40 tf_8_16 rfl (kc_80 C) (q36.s.2.2.1) ?_
          refine r_aload_n (pc := 43) X dX8_isSeen_43 rfl ?_
          refine r_getr (pc := 44) X dX8_isSeen_44 tf_8_126 rfl (kc_80 C) (rc_80_38 C) ?_
          refine r_iload_n (pc := 47) X dX8_isSeen_47 rfl ?_
          refine r_ialdW (pc := 48) X dX8_isSeen_48 (kc_100 C) rfl (show k < 6 by omega) (by omega) (show M36 100 k = nI p2 from (by rw [q36.2.2.2.1.1 100 (by omega) (by omega) (by omega)]; exact eW)) ?_
          refine r_icmp_ne (pc := 49) X dX8_isSeen_49 (tgt := 56) (by decide) (fun c49 => ?_) (fun c49 => ?_)
          · refine r_iconst (pc := 56) (v := (nI 0)) X dX8_isSeen_56 (by decide) ?_
            refine r_istore_n (pc := 57) X dX8_isSeen_57 (Nat.le_of_ble_eq_true rfl) ?_
            refine r_aload_n (pc := 58) X dX8_isSeen_58 rfl ?_
            refine r_c0_0VW (pc := 59) X rfl dX8_isSeen_59 tc_8_359 mm_X8_putBack (kc_80 C) rfl rfl (a_back (d + 6) C q36 Q O) (Nat.le_of_ble_eq_true rfl) (fun M59 q59 => ?_)
            obtain ⟨Q1, F1⟩ := q59
            refine r_iinc (pc := 62) X dX8_isSeen_62 rfl (by first | exact nI_i1 _ | rfl) ?_
            refine r_goto (pc := 65) X dX8_isSeen_65 (tgt := 4) (by decide) ?_
            exact ih (k + 1) M59 false (by omega) Q1 (F.tr F1) (by rw [es, c13]; exact decide_eq_false (fun z => c49 ((bk_eq (by omega)).mpr z)))
          · refine r_iconst (pc := 52) (v := (nI 1)) X dX8_isSeen_52 (by decide) ?_
            refine r_goto (pc := 53) X dX8_isSeen_53 (tgt := 57) (by decide) ?_
            refine r_istore_n (pc := 57) X dX8_isSeen_57 (Nat.le_of_ble_eq_true rfl) ?_
            refine r_aload_n (pc := 58) X dX8_isSeen_58 rfl ?_
            refine r_c0_0VW (pc := 59) X rfl dX8_isSeen_59 tc_8_359 mm_X8_putBack (kc_80 C) rfl rfl (a_back (d + 6) C q36 Q O) (Nat.le_of_ble_eq_true rfl) (fun M59 q59 => ?_)
            obtain ⟨Q1, F1⟩ := q59
            refine r_iinc (pc := 62) X dX8_isSeen_62 rfl (by first | exact nI_i1 _ | rfl) ?_
            refine r_goto (pc := 65) X dX8_isSeen_65 (tgt := 4) (by decide) ?_
            exact ih (k + 1) M59 true (by omega) Q1 (F.tr F1) (by rw [es, c13]; exact decide_eq_true ((bk_eq (by omega)).mp c49))
set_option maxRecDepth 10000 in
set_option maxHeartbeats 4000000 in
theorem m_seenb : ∀ (d : Nat) {σ : SG} {h : hp_T} {M : Mem} {B0 : Nat} (C : CS h) (Q : MRep σ M (h_l h)) (O : OK B0 σ) (hB : B0 + 2000 ≤ 1000000) {p : Nat} (hp : p < vP (sV σ)) , Ei (d + 7) nX8_isSeen [.ref 80, .int (nI p)] (wi h M) (fun r M1 => r = b2 (soF (EE σ) (sSe σ) (handF (sV σ) (nI p))) ∧ MRep σ M1 (h_l h) ∧ FM h M (h_l h) M1) := by
  intro d σ h M B0 C Q O hB p hp 
  refine Ex.of mm_X8_isSeen (Nat.le_of_ble_eq_true rfl) fun w κ X hk hnm => ?_
  refine r_iconst (pc := 0) (v := (nI 1)) X dX8_isSeen_0 (by decide) ?_
  refine r_istore_n (pc := 1) X dX8_isSeen_1 (Nat.le_of_ble_eq_true rfl) ?_
  refine r_iconst (pc := 2) (v := (nI 0)) X dX8_isSeen_2 (by decide) ?_
  refine r_istore_n (pc := 3) X dX8_isSeen_3 (Nat.le_of_ble_eq_true rfl) ?_
  exact lm_seenb d C O hB X hp rfl (fun M1 Q1 F1 => ⟨⟨_, M1, rfl, rfl, rfl, Q1, F1⟩, rfl⟩) (sSe σ).length 0 M true (by omega) Q FM.rf rfl
set_option maxRecDepth 10000 in
set_option maxHeartbeats 4000000 in
theorem lm_from : ∀ (d : Nat) {σ : SG} {h : hp_T} {M0 : Mem} {B0 : Nat} (C : CS h) (O : OK B0 σ) (hB : B0 + 2000 ≤ 1000000) {w : wc_T} {κ : cx_T} {Φ : Option Value → hp_T → Prop} (X : CX w κ (d + 9) 8 cX8_from 3 (some .int) Φ) {P : Nat} (hP : vP (sV σ) = P) {F : Nat → Bool} (hF : F = fun k => soF (EE σ) (sSe σ) (handF (sV σ) (nI k))) {rr : Int32}
    (hΦ : ∀ M1, MRep σ M1 (h_l h) → FM h M0 (h_l h) M1 → Φ (some (.int rr)) (wi h M1)),
    ∀ (m : Nat) (k : Nat) (M : Mem) (sn : Nat), k + m = P → sn < 64 → MRep σ M (h_l h) → FM h M0 (h_l h) M → frF F m k (nI sn) = rr → GG w κ 4 [some (.ref 80), some (.int (nI sn)), some (.int (nI k))] [] (wi h M) := by
  intro d σ h M0 B0 C O hB w κ Φ X P hP F hF rr hΦ m
  have h6 := O.w.2.1
  subst hP
  induction m with
  | zero =>
    intro k M sn hk hs Q F hA
    have e : k = vP (sV σ) := by omega
    subst e
    subst hA
    refine r_iload_n (pc := 4) X dX8_from_4 rfl ?_
    refine r_aload_n (pc := 5) X dX8_from_5 rfl ?_
    refine r_getiW (pc := 6) X dX8_from_6 tf_8_7 rfl (kc_80 C) (Q.pp O) ?_
    refine r_icmp_geN (pc := 9) X dX8_from_9 (tgt := 36) (by decide) (by omega) (by omega) (fun c9 => ?_) (fun c9 => ?_)
    · refine r_iload_n (pc := 36) X dX8_from_36 rfl ?_
      refine r_iret (pc := 37) X dX8_from_37 rfl rfl ?_
      exact hΦ M Q F
    · exact absurd (Nat.le_refl _) c9
  | succ m ih =>
    intro k M sn hk hs Q F hA
    subst hF
    have hkp : k < vP (sV σ) := by omega
    refine r_iload_n (pc := 4) X dX8_from_4 rfl ?_
    refine r_aload_n (pc := 5) X dX8_from_5 rfl ?_
    refine r_getiW (pc := 6) X dX8_from_6 tf_8_7 rfl (kc_80 C) (Q.pp O) ?_
    refine r_icmp_geN (pc := 9) X dX8_from_9 (tgt := 36) (by decide) (by omega) (by omega) (fun c9 => ?_) (fun c9 => ?_)
    · exact absurd c9 (by omega)
    · refine r_iload_n (pc := 12) X dX8_from_12 rfl ?_
      refine r_aload_n (pc := 13) X dX8_from_13 rfl ?_
      refine r_iload_n (pc := 14) X dX8_from_14 rfl ?_
      refine r_c0_1IW (pc := 15) X rfl dX8_from_15 tc_8_371 mm_X8_isSeen (kc_80 C) rfl rfl (m_seenb (d + 1) C Q O hB hkp) (Nat.le_of_ble_eq_true rfl) (fun r15 M15 q15 => ?_)
      obtain ⟨rfl, Q1, F1⟩ := q15
      refine r_if_eqB (pc := 18) X dX8_from_18 (tgt := 27) (by decide) (fun c18 => ?_) (fun c18 => ?_)
      · refine r_iconst (pc := 27) (v := (nI 0)) X dX8_from_27 (by decide) ?_
        refine r_ior (pc := 28) X dX8_from_28 ?_
        refine r_istore_n (pc := 29) X dX8_from_29 (Nat.le_of_ble_eq_true rfl) ?_
        refine r_iinc (pc := 30) X dX8_from_30 rfl (by first | exact nI_i1 _ | rfl) ?_
        refine r_goto (pc := 33) X dX8_from_33 (tgt := 4) (by decide) ?_
        rw [mk_o0 sn hs]
        exact ih (k + 1) M15 sn (by omega) hs Q1 (F.tr F1) ((if_neg (nt_f c18)).symm.trans hA)
      · refine r_iconst (pc := 21) (v := (nI 1)) X dX8_from_21 (by decide) ?_
        refine r_iload_n (pc := 22) X dX8_from_22 rfl ?_
        refine r_ishl (pc := 23) X dX8_from_23 ?_
        refine r_goto (pc := 24) X dX8_from_24 (tgt := 28) (by decide) ?_
        refine r_ior (pc := 28) X dX8_from_28 ?_
        refine r_istore_n (pc := 29) X dX8_from_29 (Nat.le_of_ble_eq_true rfl) ?_
        refine r_iinc (pc := 30) X dX8_from_30 rfl (by first | exact nI_i1 _ | rfl) ?_
        refine r_goto (pc := 33) X dX8_from_33 (tgt := 4) (by decide) ?_
        obtain ⟨n2, hn2, e2⟩ := mk_or sn hs k (by omega)
        rw [e2]
        exact ih (k + 1) M15 n2 (by omega) hn2 Q1 (F.tr F1) (by rw [← e2]; exact (if_pos c18).symm.trans hA)
set_option maxRecDepth 10000 in
set_option maxHeartbeats 4000000 in
theorem n_from : ∀ (d : Nat) {σ : SG} {h : hp_T} {M : Mem} {B0 : Nat} (C : CS h) (Q : MRep σ M (h_l h)) (O : OK B0 σ) (hB : B0 + 2000 ≤ 1000000), Ex (d + 9) nX8_from [.ref 80] (wi h M) 0 0 (QM (f_from σ) h M) := by
  intro d σ h M B0 C Q O hB
  refine Ex.of mm_X8_from (Nat.le_of_ble_eq_true rfl) fun w κ X hk hnm => ?_
  refine r_iconst (pc := 0) (v := (nI 0)) X dX8_from_0 (by decide) ?_
  refine r_istore_n (pc := 1) X dX8_from_1 (Nat.le_of_ble_eq_true rfl) ?_
  refine r_iconst (pc := 2) (v := (nI 0)) X dX8_from_2 (by decide) ?_
  refine r_istore_n (pc := 3) X dX8_from_3 (Nat.le_of_ble_eq_true rfl) ?_
  exact lm_from d C O hB X rfl rfl (fun M1 Q1 F1 => ⟨QM.mk rfl Q1 F1, rfl⟩) (vP (sV σ)) 0 M 0 (by omega) (by omega) Q FM.rf rfl
theorem OK.setV {σ : SG} {B0 B : Nat} {V : VT} (O : OK B0 σ) (hB : B0 ≤ B) (hW : WF B V) (hz : ZV V) (hn : NZ V) (hP : vP V = vP (sV σ)) (hi : ∀ s, sIm σ = some s → OKS B (sEv σ).length s) : OK B (_root_.Jvm.Pilot.CLastAtPumpLaw_law_r4897_fbdc39.setV σ V) := by
  obtain ⟨⟨-, a2, a3, a4, a5⟩, -, b2⟩ := O
  refine ⟨⟨⟨hW, hz, hn⟩, a2, ⟨a3.1, fun i h => ?_⟩, ⟨a4.1, fun i h => ?_⟩, ⟨a5.1, fun i h => ?_⟩⟩, hi, b2⟩
  · obtain ⟨p, n, h1, h2, h3⟩ := a3.2 i h
    exact ⟨p, n, by show p < vP V; rw [hP]; exact h1, h2, h3⟩
  · obtain ⟨p, h1⟩ := a4.2 i h
    refine ⟨p, ?_⟩
    rw [show vP (_root_.Jvm.Pilot.CLastAtPumpLaw_law_r4897_fbdc39.setV σ V).1.1 = vP (sV σ) from hP]
    exact h1
  · obtain ⟨p, n, h1, h2, h3⟩ := a5.2 i h
    exact ⟨p, n, by show p < vP V; rw [hP]; exact h1, h2, h3⟩
theorem OK.hop {σ : SG} {B0 p e : Nat} (O : OK B0 σ) (hp : p < 6) (he : e ≤ 9) : OK B0 (_root_.Jvm.Pilot.CLastAtPumpLaw_law_r4897_fbdc39.setV σ (vU (sV σ) 4 p (nI e))) := by
  refine O.setV (Nat.le_refl _) (O.w.pers (f := 4) (by omega) ⟨e, by simp; omega, rfl⟩) (O.z.U (by omega)) (fun q hq => ?_) (vP_U (by omega)) (fun s h => O.2.1 s h)
  rw [vP_U (by omega)] at hq
  have := O.1.1.2.2 q hq
  exact ⟨by rw [vU_ne (by omega)]; exact this.1, fun j hj => by rw [vU_ne (by omega)]; exact this.2 j hj⟩
set_option maxRecDepth 10000 in
set_option maxHeartbeats 4000000 in
theorem lm_had : ∀ (d : Nat) {σ : SG} {h : hp_T} {M0 : Mem} {B0 : Nat} (C : CS h) (O : OK B0 σ) (hB : B0 + 2000 ≤ 1000000) {w : wc_T} {κ : cx_T} {Φ : Option Value → hp_T → Prop} (X : CX w κ (d + 9) 8 cX8_had 7 (some .int) Φ) {p : Nat} {x : Int32} (hp6 : p < 6) {F : Nat → Bool} (hF : F = fun e => soF (EE σ) (sSe σ) (vU (sV σ) 4 p (nI e))) {rr : Nat × Int32}
    (hΦ : ∀ M1, MRep σ M1 (h_l h) → FM h M0 (h_l h) M1 → Φ (some (.int (if x = 0 then nI rr.1 else rr.2))) (wi h M1)),
    ∀ (m : Nat) (M : Mem) (c : Nat) (y y2 : Int32), m ≤ 10 → MRep (setV σ (vU (sV σ) 4 p y2)) M (h_l h) → FM h M0 (h_l h) M → hdF F m c y = rr → GG w κ 38 [some (.ref 80), some (.int (nI p)), some (.int x), some (.int (sV σ 4 p)), some (.int (nI c)), some (.int y), some (.int (lowH m))] [] (wi h M) := by
  intro d σ h M0 B0 C O hB w κ Φ X p x hp6 F hF rr hΦ m
  have h6 := O.w.2.1
  induction m with
  | zero =>
    intro M c y y2 hm Q F hA
    subst hA
    have f9 : FS M (mU M 84 (upd (M 84) p (sV σ 4 p))) := FS.uf (by omega)
    have s9 := Q.s.uf (f := 4) (k := p) (x := sV σ 4 p) (by omega)
    rw [show vU (sV (setV σ (vU (sV σ) 4 p y2))) 4 p (sV σ 4 p) = sV σ by show vU (vU (sV σ) 4 p y2) 4 p (sV σ 4 p) = sV σ; rw [vU_vU, vU_id]] at s9
    have q9 := Q.st s9 f9
    refine r_iload (pc := 38) X dX8_had_38 rfl ?_
    refine r_if_lt (pc := 40) X dX8_had_40 (tgt := 75) (by decide) (fun c40 => ?_) (fun c40 => ?_)
    · refine r_aload_n (pc := 75) X dX8_had_75 rfl ?_
      refine r_getr (pc := 76) X dX8_had_76 tf_8_35 rfl (kc_80 C) (rc_80_8 C) ?_
      refine r_iload_n (pc := 79) X dX8_had_79 rfl ?_
      refine r_iload_n (pc := 80) X dX8_had_80 rfl ?_
      refine r_iastW (pc := 81) X dX8_had_81 (kc_84 C) rfl hp6 (by omega) ?_
      refine r_iload_n (pc := 82) X dX8_had_82 rfl ?_
      refine r_if_ne (pc := 83) X dX8_had_83 (tgt := 91) (by decide) (fun c83 => ?_) (fun c83 => ?_)
      · refine r_iload (pc := 91) X dX8_had_91 rfl ?_
        refine r_iret (pc := 93) X dX8_had_93 rfl rfl ?_
        have := hΦ _ q9 (F.tr (FM.fa f9.fa))
        rw [if_neg c83] at this
        exact this
      · refine r_iload (pc := 86) X dX8_had_86 rfl ?_
        refine r_goto (pc := 88) X dX8_had_88 (tgt := 93) (by decide) ?_
        refine r_iret (pc := 93) X dX8_had_93 rfl rfl ?_
        have := hΦ _ q9 (F.tr (FM.fa f9.fa))
        rw [if_pos c83] at this
        exact this
    · exact absurd (show lowH 0 < 0 by decide) c40
  | succ m ih =>
    intro M c y y2 hm Q F hA
    subst hF
    have O1 : OK B0 (setV σ (vU (sV σ) 4 p (nI m))) := O.hop hp6 (by omega)
    have f9 : FS M (mU M 84 (upd (M 84) p (nI m))) := FS.uf (by omega)
    have s9 := Q.s.uf (f := 4) (k := p) (x := nI m) (by omega)
    rw [show vU (sV (setV σ (vU (sV σ) 4 p y2))) 4 p (nI m) = vU (sV σ) 4 p (nI m) from vU_vU] at s9
    have q9 : MRep (setV σ (vU (sV σ) 4 p (nI m))) (mU M 84 (upd (M 84) p (nI m))) (h_l h) := Q.st s9 f9
    show GG w κ 38 [some (.ref 80), some (.int (nI p)), some (.int x), some (.int (sV σ 4 p)), some (.int (nI c)), some (.int y), some (.int (nI m))] [] (wi h M)
    refine r_iload (pc := 38) X dX8_had_38 rfl ?_
    refine r_if_lt (pc := 40) X dX8_had_40 (tgt := 75) (by decide) (fun c40 => ?_) (fun c40 => ?_)
    · exact absurd c40 (nI_pos (by omega))
    · refine r_aload_n (pc := 43) X dX8_had_43 rfl ?_
      refine r_getr (pc := 44) X dX8_had_44 tf_8_35 rfl (kc_80 C) (rc_80_8 C) ?_
      refine r_iload_n (pc := 47) X dX8_had_47 rfl ?_
      refine r_iload (pc := 48) X dX8_had_48 rfl ?_
      refine r_iastW (pc := 50) X dX8_had_50 (kc_84 C) rfl hp6 (by omega) ?_
      refine r_aload_n (pc := 51) X dX8_had_51 rfl ?_
      refine r_iconst (pc := 52) (v := (-1)) X dX8_had_52 (by decide) ?_
      refine r_c0_1IW (pc := 53) X rfl dX8_had_53 tc_8_371 mm_X8_isSeen (kc_80 C) rfl rfl (m_seena (d + 1) C q9 O1 hB) (Nat.le_of_ble_eq_true rfl) (fun r53 M53 q53 => ?_)
      obtain ⟨rfl, Q1, F1⟩ := q53
      refine r_if_neB (pc := 56) X dX8_had_56 (tgt := 62) (by decide) (fun c56 => ?_) (fun c56 => ?_)
      · refine r_iinc (pc := 62) X dX8_had_62 rfl (by first | exact nI_i1 _ | rfl) ?_
        refine r_iload (pc := 65) X dX8_had_65 rfl ?_
        refine r_istore (pc := 67) X dX8_had_67 (Nat.le_of_ble_eq_true rfl) ?_
        refine r_iinc (pc := 69) X dX8_had_69 rfl (lowH_dec m) ?_
        refine r_goto (pc := 72) X dX8_had_72 (tgt := 38) (by decide) ?_
        exact ih M53 _ _ _ (by omega) Q1 ((F.tr (FM.fa f9.fa)).tr F1) ((if_pos c56).symm.trans hA)
      · refine r_goto (pc := 59) X dX8_had_59 (tgt := 69) (by decide) ?_
        refine r_iinc (pc := 69) X dX8_had_69 rfl (lowH_dec m) ?_
        refine r_goto (pc := 72) X dX8_had_72 (tgt := 38) (by decide) ?_
        exact ih M53 _ _ _ (by omega) Q1 ((F.tr (FM.fa f9.fa)).tr F1) ((if_neg (nt_f c56)).symm.trans hA)
set_option maxRecDepth 10000 in
set_option maxHeartbeats 4000000 in
theorem n_had : ∀ (d : Nat) (p x : Int32) {σ : SG} {h : hp_T} {M : Mem} {B0 : Nat} (C : CS h) (Q : MRep σ M (h_l h)) (O : OK B0 σ) (hB : B0 + 2000 ≤ 1000000), Ex (d + 9) nX8_had [.ref 80, .int p, .int x] (wi h M) 0 0 (QM (f_had σ p x) h M) := by
  intro d p x σ h M B0 C Q O hB
  refine Ex.of mm_X8_had (Nat.le_of_ble_eq_true rfl) fun w κ X hk hnm => ?_
  refine r_aload_n (pc := 0) X dX8_had_0 rfl ?_
  refine r_iload_n (pc := 1) X dX8_had_1 rfl ?_
  refine r_c0_1P (pc := 2) X rfl dX8_had_2 tc_8_247 mm_X8_isPerson (kc_80 C) rfl rfl (m_isPerson (d + 7) p C Q.s O.w) (Nat.le_of_ble_eq_true rfl) ?_
  refine r_if_eqB (pc := 5) X dX8_had_5 (tgt := 18) (by decide) (fun c5 => ?_) (fun c5 => ?_)
  · refine r_iconst (pc := 18) (v := (-1)) X dX8_had_18 (by decide) ?_
    refine r_iret (pc := 19) X dX8_had_19 rfl rfl ?_
    refine ⟨QM.mk (σ1 := σ) ?_ Q FM.rf, rfl⟩
    simp (decide := true) [f_had, c5]
  · refine r_aload_n (pc := 8) X dX8_had_8 rfl ?_
    refine r_iload_n (pc := 9) X dX8_had_9 rfl ?_
    refine r_iconst (pc := 10) (v := (nI 0)) X dX8_had_10 (by decide) ?_
    refine r_iconst (pc := 11) (v := (nI 1)) X dX8_had_11 (by decide) ?_
    refine r_c0_3P (pc := 12) X rfl dX8_had_12 tc_8_236 mm_X8_in (kc_80 C) rfl rfl (m_in (d + 8) x (nI 0) (nI 1)) (Nat.le_of_ble_eq_true rfl) ?_
    refine r_if_neB (pc := 15) X dX8_had_15 (tgt := 20) (by decide) (fun c15 => ?_) (fun c15 => ?_)
    · obtain ⟨p, hp, hp6, rfl⟩ := has_nat O.w c5
      have cp := nI_clamp (show p < 2 ^ 31 by omega)
      refine r_aload_n (pc := 20) X dX8_had_20 rfl ?_
      refine r_getr (pc := 21) X dX8_had_21 tf_8_35 rfl (kc_80 C) (rc_80_8 C) ?_
      refine r_iload_n (pc := 24) X dX8_had_24 rfl ?_
      refine r_ialdW (pc := 25) X dX8_had_25 (kc_84 C) rfl hp6 (by omega) (Q.s.a4 p) ?_
      refine r_istore_n (pc := 26) X dX8_had_26 (Nat.le_of_ble_eq_true rfl) ?_
      refine r_iconst (pc := 27) (v := (nI 0)) X dX8_had_27 (by decide) ?_
      refine r_istore (pc := 28) X dX8_had_28 (Nat.le_of_ble_eq_true rfl) ?_
      refine r_bipush (pc := 30) (v := (-5)) X dX8_had_30 (by decide) ?_
      refine r_istore (pc := 32) X dX8_had_32 (Nat.le_of_ble_eq_true rfl) ?_
      refine r_bipush (pc := 34) (v := (nI 9)) X dX8_had_34 (by decide) ?_
      refine r_istore (pc := 36) X dX8_had_36 (Nat.le_of_ble_eq_true rfl) ?_
      refine lm_had d C O hB X hp6 rfl (fun M1 Q1 F1 => ⟨QM.mk ?_ Q1 F1, rfl⟩) 10 M 0 (-5) (sV σ 4 p) (by omega) (by rw [vU_id]; exact Q) FM.rf rfl
      simp (decide := true) [f_had, c5, c15, cp]
    · refine r_iconst (pc := 18) (v := (-1)) X dX8_had_18 (by decide) ?_
      refine r_iret (pc := 19) X dX8_had_19 rfl rfl ?_
      refine ⟨QM.mk (σ1 := σ) ?_ Q FM.rf, rfl⟩
      simp (decide := true) [f_had, c5, c15]
