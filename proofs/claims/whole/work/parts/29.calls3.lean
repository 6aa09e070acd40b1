/-! more of what is asked -/
theorem nt_f {b : Bool} (h : b = false) : ¬ b = true := by rw [h]; decide
theorem OK.sn {B : Nat} {σ : SG} (O : OK B σ) : SnL (vP (sV σ)) (sSe σ) := O.1.2.2.1
set_option maxRecDepth 10000 in
set_option maxHeartbeats 4000000 in
theorem l_muI : ∀ (d : Nat) {σ : SG} {h0 : hp_T} {M0 : Mem} {B0 : Nat} (O : OK B0 σ) (hB : B0 + 2000 ≤ 1000000) {w : wc_T} {κ : cx_T} {Φ : Option Value → hp_T → Prop} (X : CX w κ (d + 8) 7 cX7_mute 5 (some .int) Φ) {P n k0 : Nat} {G : VT} (hP : vP (sV σ) = P) {rr : Int32} {g : hp_T} {M : Mem} (T : TS σ g M G)
    (hT : ∀ z, GG w κ 104 [some (.ref 23), some (.int (nI n)), some (.int rr), some (.int (nI k0)), z] [] (wi g M)),
    ∀ (m : Nat) (k : Nat) (s : Int32), k + m = P → muI G (sV σ) m k s = rr → GG w κ 54 [some (.ref 23), some (.int (nI n)), some (.int s), some (.int (nI k0)), some (.int (nI k))] [] (wi g M) := by
  intro d σ h0 M0 B0 O hB w κ Φ X P n k0 G hP rr g M T hT m
  have h6 := O.w.2.1
  subst hP
  have R := T.R
  have C := R.C
  induction m with
  | zero =>
    intro k s hk hA
    have e : k = vP (sV σ) := by omega
    subst e
    subst hA
    refine r_iload (pc := 54) X dX7_mute_54 rfl ?_
    refine r_aload_n (pc := 56) X dX7_mute_56 rfl ?_
    refine r_getr (pc := 57) X dX7_mute_57 tf_7_25 rfl (kc_23 C) (rc_23_3 C) ?_
    refine r_getiW (pc := 60) X dX7_mute_60 tf_7_160 rfl (kc_25 C) (R.pp O) ?_
    refine r_icmp_geN (pc := 63) X dX7_mute_63 (tgt := 104) (by decide) (by omega) (by omega) (fun c63 => ?_) (fun c63 => ?_)
    · exact hT _
    · exact absurd (Nat.le_refl _) c63
  | succ m ih =>
    intro k s hk hA
    refine r_iload (pc := 54) X dX7_mute_54 rfl ?_
    refine r_aload_n (pc := 56) X dX7_mute_56 rfl ?_
    refine r_getr (pc := 57) X dX7_mute_57 tf_7_25 rfl (kc_23 C) (rc_23_3 C) ?_
    refine r_getiW (pc := 60) X dX7_mute_60 tf_7_160 rfl (kc_25 C) (R.pp O) ?_
    refine r_icmp_geN (pc := 63) X dX7_mute_63 (tgt := 104) (by decide) (by omega) (by omega) (fun c63 => ?_) (fun c63 => ?_)
    · exact absurd c63 (by omega)
    · refine r_aload_n (pc := 66) X dX7_mute_66 rfl ?_
      refine r_getr (pc := 67) X dX7_mute_67 tf_7_29 rfl (kc_23 C) (rc_23_4 C) ?_
      refine r_getr (pc := 70) X dX7_mute_70 tf_7_84 rfl (kc_58 C) (rc_58_4 C) ?_
      refine r_iload (pc := 73) X dX7_mute_73 rfl ?_
      refine r_ialdW (pc := 75) X dX7_mute_75 (kc_63 C) rfl (by omega) (by omega) (T.a5 k) ?_
      refine r_aload_n (pc := 76) X dX7_mute_76 rfl ?_
      refine r_getr (pc := 77) X dX7_mute_77 tf_7_25 rfl (kc_23 C) (rc_23_3 C) ?_
      refine r_getr (pc := 80) X dX7_mute_80 tf_7_84 rfl (kc_25 C) (rc_25_4 C) ?_
      refine r_iload (pc := 83) X dX7_mute_83 rfl ?_
      refine r_ialdW (pc := 85) X dX7_mute_85 (kc_30 C) rfl (by omega) (by omega) (R.a5 k) ?_
      refine r_icmp_eq (pc := 86) X dX7_mute_86 (tgt := 98) (by decide) (fun c86 => ?_) (fun c86 => ?_)
      · refine r_iinc (pc := 98) X dX7_mute_98 rfl (by first | exact nI_i1 _ | rfl) ?_
        refine r_goto (pc := 101) X dX7_mute_101 (tgt := 54) (by decide) ?_
        exact ih (k + 1) _ (by omega) ((if_pos c86).symm.trans hA)
      · refine r_iload_n (pc := 89) X dX7_mute_89 rfl ?_
        refine r_iconst (pc := 90) (v := (nI 1)) X dX7_mute_90 (by decide) ?_
        refine r_iload (pc := 91) X dX7_mute_91 rfl ?_
        refine r_ishl (pc := 93) X dX7_mute_93 ?_
        refine r_iconst (pc := 94) (v := (-1)) X dX7_mute_94 (by decide) ?_
        refine r_ixor (pc := 95) X dX7_mute_95 ?_
        refine r_iand (pc := 96) X dX7_mute_96 ?_
        refine r_istore_n (pc := 97) X dX7_mute_97 (Nat.le_of_ble_eq_true rfl) ?_
        refine r_iinc (pc := 98) X dX7_mute_98 rfl (by first | exact nI_i1 _ | rfl) ?_
        refine r_goto (pc := 101) X dX7_mute_101 (tgt := 54) (by decide) ?_
        exact ih (k + 1) _ (by omega) ((if_neg c86).symm.trans hA)
set_option maxRecDepth 10000 in
set_option maxHeartbeats 4000000 in
theorem l_muO : ∀ (d : Nat) {σ : SG} {h0 : hp_T} {M0 : Mem} {B0 : Nat} (O : OK B0 σ) (hB : B0 + 2000 ≤ 1000000) {w : wc_T} {κ : cx_T} {Φ : Option Value → hp_T → Prop} (X : CX w κ (d + 8) 7 cX7_mute 5 (some .int) Φ) {P n : Nat} (hP : vP (sV σ) = P) (hn : n ≤ 60) {F : Nat → VT} (hF : F = fun k => goF (EE σ) n (handF (sV σ) (nI k))) {rr : Int32}
    (hΦ : ∀ g M1, CRep σ g M1 → FR h0 M0 g M1 → Φ (some (.int rr)) (wi g M1)),
    ∀ (m : Nat) (k : Nat) (g : hp_T) (M : Mem) (s : Int32) (z : Option Value), k + m = P → CRep σ g M → FR h0 M0 g M → muO F (sV σ) P m k s = rr → GG w κ 27 [some (.ref 23), some (.int (nI n)), some (.int s), some (.int (nI k)), z] [] (wi g M) := by
  intro d σ h0 M0 B0 O hB w κ Φ X P n hP hn F hF rr hΦ m
  have h6 := O.w.2.1
  subst hP
  induction m with
  | zero =>
    intro k g M s z hk R F hA
    have C := R.C
    have e : k = vP (sV σ) := by omega
    subst e
    subst hA
    refine r_iload_n (pc := 27) X dX7_mute_27 rfl ?_
    refine r_aload_n (pc := 28) X dX7_mute_28 rfl ?_
    refine r_getr (pc := 29) X dX7_mute_29 tf_7_25 rfl (kc_23 C) (rc_23_3 C) ?_
    refine r_getiW (pc := 32) X dX7_mute_32 tf_7_160 rfl (kc_25 C) (R.pp O) ?_
    refine r_icmp_geN (pc := 35) X dX7_mute_35 (tgt := 110) (by decide) (by omega) (by omega) (fun c35 => ?_) (fun c35 => ?_)
    · refine r_iload_n (pc := 110) X dX7_mute_110 rfl ?_
      refine r_iret (pc := 111) X dX7_mute_111 rfl rfl ?_
      exact hΦ g M R F
    · exact absurd (Nat.le_refl _) c35
  | succ m ih =>
    intro k g M s z hk R F hA
    have C := R.C
    subst hF
    have hkp : k < vP (sV σ) := by omega
    refine r_iload_n (pc := 27) X dX7_mute_27 rfl ?_
    refine r_aload_n (pc := 28) X dX7_mute_28 rfl ?_
    refine r_getr (pc := 29) X dX7_mute_29 tf_7_25 rfl (kc_23 C) (rc_23_3 C) ?_
    refine r_getiW (pc := 32) X dX7_mute_32 tf_7_160 rfl (kc_25 C) (R.pp O) ?_
    refine r_icmp_geN (pc := 35) X dX7_mute_35 (tgt := 110) (by decide) (by omega) (by omega) (fun c35 => ?_) (fun c35 => ?_)
    · exact absurd c35 (by omega)
    · refine r_aload_n (pc := 38) X dX7_mute_38 rfl ?_
      refine r_iload_n (pc := 39) X dX7_mute_39 rfl ?_
      refine r_c0_1G (pc := 40) X rfl dX7_mute_40 tc_7_163 mm_X7_startWith (kc_23 C) rfl rfl (t_start (d + 5) R O hkp) (Nat.le_of_ble_eq_true rfl) (fun v40 g40 q40 => ?_)
      obtain ⟨M40, g40, rfl, rfl, T40, F40⟩ := q40
      have C := T40.R.C
      refine r_aload_n (pc := 43) X dX7_mute_43 rfl ?_
      refine r_getr (pc := 44) X dX7_mute_44 tf_7_29 rfl (kc_23 C) (rc_23_4 C) ?_
      refine r_iload_n (pc := 47) X dX7_mute_47 rfl ?_
      refine r_c0_1VW (pc := 48) X rfl dX7_mute_48 tc_7_151 mm_X5_go (kc_58 C) rfl rfl (t_go (d + 2) n T40 O (O.w.handN hkp) O.z.hand (by omega) (by omega)) (Nat.le_of_ble_eq_true rfl) (fun M48 q48 => ?_)
      obtain ⟨T48, F48⟩ := q48
      have F9 := (F.tr F40).tr F48
      refine r_iconst (pc := 51) (v := (nI 0)) X dX7_mute_51 (by decide) ?_
      refine r_istore (pc := 52) X dX7_mute_52 (Nat.le_of_ble_eq_true rfl) ?_
      refine l_muI (h0 := h0) (M0 := M0) d O hB X rfl T48 (fun z2 => ?_) (vP (sV σ)) 0 s (by omega) rfl
      refine r_iinc (pc := 104) X dX7_mute_104 rfl (by first | exact nI_i1 _ | rfl) ?_
      refine r_goto (pc := 107) X dX7_mute_107 (tgt := 27) (by decide) ?_
      exact ih (k + 1) g40 M48 _ _ (by omega) T48.R F9 hA
set_option maxRecDepth 10000 in
set_option maxHeartbeats 4000000 in
theorem k_mute : ∀ (d : Nat) (n : Int32) {σ : SG} {h : hp_T} {M : Mem} {B0 : Nat} (R : CRep σ h M) (O : OK B0 σ) (hB : B0 + 2000 ≤ 1000000), Ex (d + 8) nX7_mute [.ref 23, .int n] (wi h M) 0 0 (QC (f_mute σ n) h M) := by
  intro d n σ h M B0 R O hB
  have C := R.C
  refine Ex.of mm_X7_mute (Nat.le_of_ble_eq_true rfl) fun w κ X hk hnm => ?_
  refine r_iload_n (pc := 0) X dX7_mute_0 rfl ?_
  refine r_iconst (pc := 1) (v := (nI 1)) X dX7_mute_1 (by decide) ?_
  refine r_bipush (pc := 2) (v := (nI 60)) X dX7_mute_2 (by decide) ?_
  refine r_c1_3P (pc := 4) X rfl dX7_mute_4 tc_7_53 mm_X7_isWithin (e_in (d + 7) n (nI 1) (nI 60)) (Nat.le_of_ble_eq_true rfl) ?_
  refine r_if_neB (pc := 7) X dX7_mute_7 (tgt := 13) (by decide) (fun c7 => ?_) (fun c7 => ?_)
  · obtain ⟨t, ht0, ht, rfl⟩ := inF_lo c7 (by omega) (by omega)
    have ct := nI_clamp (show t < 2 ^ 31 by omega)
    refine r_iconst (pc := 13) (v := (nI 1)) X dX7_mute_13 (by decide) ?_
    refine r_aload_n (pc := 14) X dX7_mute_14 rfl ?_
    refine r_getr (pc := 15) X dX7_mute_15 tf_7_25 rfl (kc_23 C) (rc_23_3 C) ?_
    refine r_getiW (pc := 18) X dX7_mute_18 tf_7_160 rfl (kc_25 C) (R.pp O) ?_
    refine r_ishl (pc := 21) X dX7_mute_21 ?_
    refine r_iconst (pc := 22) (v := (nI 1)) X dX7_mute_22 (by decide) ?_
    refine r_isub (pc := 23) X dX7_mute_23 ?_
    refine r_istore_n (pc := 24) X dX7_mute_24 (Nat.le_of_ble_eq_true rfl) ?_
    refine r_iconst (pc := 25) (v := (nI 0)) X dX7_mute_25 (by decide) ?_
    refine r_istore_n (pc := 26) X dX7_mute_26 (Nat.le_of_ble_eq_true rfl) ?_
    refine l_muO d O hB X rfl ht rfl (fun g M1 R1 F1 => ⟨QC.mk ?_ R1 F1, F1.1⟩) (vP (sV σ)) 0 h M _ _ (by omega) R FR.rf rfl
    simp (decide := true) [f_mute, c7, ct]
  · refine r_bipush (pc := 10) (v := (-2)) X dX7_mute_10 (by decide) ?_
    refine r_iret (pc := 12) X dX7_mute_12 rfl rfl ?_
    refine ⟨QC.mk (σ1 := σ) ?_ R FR.rf, rfl⟩
    simp (decide := true) [f_mute, c7]
set_option maxRecDepth 10000 in
set_option maxHeartbeats 4000000 in
theorem l_from : ∀ (d : Nat) {σ : SG} {h0 : hp_T} {M0 : Mem} {B0 : Nat} (O : OK B0 σ) (hB : B0 + 2000 ≤ 1000000) {w : wc_T} {κ : cx_T} {Φ : Option Value → hp_T → Prop} (X : CX w κ (d + 8) 7 cX7_from 3 (some .int) Φ) {P : Nat} (hP : vP (sV σ) = P) {F : Nat → Bool} (hF : F = fun k => soF (EE σ) (sSe σ) (handF (sV σ) (nI k))) {rr : Int32}
    (hΦ : ∀ g M1, CRep σ g M1 → FR h0 M0 g M1 → Φ (some (.int rr)) (wi g M1)),
    ∀ (m : Nat) (k : Nat) (g : hp_T) (M : Mem) (s : Int32), k + m = P → CRep σ g M → FR h0 M0 g M → frF F m k s = rr → GG w κ 4 [some (.ref 23), some (.int s), some (.int (nI k))] [] (wi g M) := by
  intro d σ h0 M0 B0 O hB w κ Φ X P hP F hF rr hΦ m
  have h6 := O.w.2.1
  subst hP
  induction m with
  | zero =>
    intro k g M s hk R F hA
    have C := R.C
    have e : k = vP (sV σ) := by omega
    subst e
    subst hA
    refine r_iload_n (pc := 4) X dX7_from_4 rfl ?_
    refine r_aload_n (pc := 5) X dX7_from_5 rfl ?_
    refine r_getr (pc := 6) X dX7_from_6 tf_7_25 rfl (kc_23 C) (rc_23_3 C) ?_
    refine r_getiW (pc := 9) X dX7_from_9 tf_7_160 rfl (kc_25 C) (R.pp O) ?_
    refine r_icmp_geN (pc := 12) X dX7_from_12 (tgt := 39) (by decide) (by omega) (by omega) (fun c12 => ?_) (fun c12 => ?_)
    · refine r_iload_n (pc := 39) X dX7_from_39 rfl ?_
      refine r_iret (pc := 40) X dX7_from_40 rfl rfl ?_
      exact hΦ g M R F
    · exact absurd (Nat.le_refl _) c12
  | succ m ih =>
    intro k g M s hk R F hA
    have C := R.C
    subst hF
    have hkp : k < vP (sV σ) := by omega
    refine r_iload_n (pc := 4) X dX7_from_4 rfl ?_
    refine r_aload_n (pc := 5) X dX7_from_5 rfl ?_
    refine r_getr (pc := 6) X dX7_from_6 tf_7_25 rfl (kc_23 C) (rc_23_3 C) ?_
    refine r_getiW (pc := 9) X dX7_from_9 tf_7_160 rfl (kc_25 C) (R.pp O) ?_
    refine r_icmp_geN (pc := 12) X dX7_from_12 (tgt := 39) (by decide) (by omega) (by omega) (fun c12 => ?_) (fun c12 => ?_)
    · exact absurd c12 (by omega)
    · refine r_aload_n (pc := 15) X dX7_from_15 rfl ?_
      refine r_iload_n (pc := 16) X dX7_from_16 rfl ?_
      refine r_c0_1G (pc := 17) X rfl dX7_from_17 tc_7_163 mm_X7_startWith (kc_23 C) rfl rfl (t_start (d + 5) R O hkp) (Nat.le_of_ble_eq_true rfl) (fun v17 g17 q17 => ?_)
      obtain ⟨M17, g17, rfl, rfl, T17, F17⟩ := q17
      have C := T17.R.C
      refine r_aload_n (pc := 20) X dX7_from_20 rfl ?_
      refine r_c0_0IW (pc := 21) X rfl dX7_from_21 tc_7_185 mm_X7_isAllSeenSo (kc_23 C) rfl rfl (t_seen (d + 2) T17 O O.sn h6 (O.w.handN hkp) O.z.hand (by omega)) (Nat.le_of_ble_eq_true rfl) (fun r21 M21 q21 => ?_)
      obtain ⟨rfl, R21, F21⟩ := q21
      have F9 := (F.tr F17).tr F21
      refine r_if_eqB (pc := 24) X dX7_from_24 (tgt := 33) (by decide) (fun c24 => ?_) (fun c24 => ?_)
      · refine r_iinc (pc := 33) X dX7_from_33 rfl (by first | exact nI_i1 _ | rfl) ?_
        refine r_goto (pc := 36) X dX7_from_36 (tgt := 4) (by decide) ?_
        exact ih (k + 1) g17 M21 _ (by omega) R21 F9 ((if_neg (nt_f c24)).symm.trans hA)
      · refine r_iload_n (pc := 27) X dX7_from_27 rfl ?_
        refine r_iconst (pc := 28) (v := (nI 1)) X dX7_from_28 (by decide) ?_
        refine r_iload_n (pc := 29) X dX7_from_29 rfl ?_
        refine r_ishl (pc := 30) X dX7_from_30 ?_
        refine r_ior (pc := 31) X dX7_from_31 ?_
        refine r_istore_n (pc := 32) X dX7_from_32 (Nat.le_of_ble_eq_true rfl) ?_
        refine r_iinc (pc := 33) X dX7_from_33 rfl (by first | exact nI_i1 _ | rfl) ?_
        refine r_goto (pc := 36) X dX7_from_36 (tgt := 4) (by decide) ?_
        exact ih (k + 1) g17 M21 _ (by omega) R21 F9 ((if_pos c24).symm.trans hA)
set_option maxRecDepth 10000 in
set_option maxHeartbeats 4000000 in
theorem k_from : ∀ (d : Nat) {σ : SG} {h : hp_T} {M : Mem} {B0 : Nat} (R : CRep σ h M) (O : OK B0 σ) (hB : B0 + 2000 ≤ 1000000), Ex (d + 8) nX7_from [.ref 23] (wi h M) 0 0 (QC (f_from σ) h M) := by
  intro d σ h M B0 R O hB
  have C := R.C
  refine Ex.of mm_X7_from (Nat.le_of_ble_eq_true rfl) fun w κ X hk hnm => ?_
  refine r_iconst (pc := 0) (v := (nI 0)) X dX7_from_0 (by decide) ?_
  refine r_istore_n (pc := 1) X dX7_from_1 (Nat.le_of_ble_eq_true rfl) ?_
  refine r_iconst (pc := 2) (v := (nI 0)) X dX7_from_2 (by decide) ?_
  refine r_istore_n (pc := 3) X dX7_from_3 (Nat.le_of_ble_eq_true rfl) ?_
  exact l_from d O hB X rfl rfl (fun g M1 R1 F1 => ⟨QC.mk rfl R1 F1, F1.1⟩) (vP (sV σ)) 0 h M _ (by omega) R FR.rf rfl
set_option maxRecDepth 10000 in
set_option maxHeartbeats 4000000 in
theorem l_had : ∀ (d : Nat) {σ : SG} {h0 : hp_T} {M0 : Mem} {B0 : Nat} (O : OK B0 σ) (hB : B0 + 2000 ≤ 1000000) {w : wc_T} {κ : cx_T} {Φ : Option Value → hp_T → Prop} (X : CX w κ (d + 8) 7 cX7_had 6 (some .int) Φ) {p : Nat} {x : Int32} (hp6 : p < 6) {F : Nat → Bool} (hF : F = fun e => soF (EE σ) (sSe σ) (vU (sV σ) 4 p (nI e))) {rr : Nat × Int32}
    (hΦ : ∀ g M1, CRep σ g M1 → FR h0 M0 g M1 → Φ (some (.int (if x = 0 then nI rr.1 else rr.2))) (wi g M1)),
    ∀ (m : Nat) (g : hp_T) (M : Mem) (c : Nat) (y : Int32), m ≤ 10 → CRep σ g M → FR h0 M0 g M → hdF F m c y = rr → GG w κ 32 [some (.ref 23), some (.int (nI p)), some (.int x), some (.int (nI c)), some (.int y), some (.int (lowH m))] [] (wi g M) := by
  intro d σ h0 M0 B0 O hB w κ Φ X p x hp6 F hF rr hΦ m
  have h6 := O.w.2.1
  induction m with
  | zero =>
    intro g M c y hm R F hA
    have C := R.C
    subst hA
    refine r_iload (pc := 32) X dX7_had_32 rfl ?_
    refine r_if_lt (pc := 34) X dX7_had_34 (tgt := 79) (by decide) (fun c34 => ?_) (fun c34 => ?_)
    · refine r_iload_n (pc := 79) X dX7_had_79 rfl ?_
      refine r_if_ne (pc := 80) X dX7_had_80 (tgt := 87) (by decide) (fun c80 => ?_) (fun c80 => ?_)
      · refine r_iload (pc := 87) X dX7_had_87 rfl ?_
        refine r_iret (pc := 89) X dX7_had_89 rfl rfl ?_
        have := hΦ g M R F
        rw [if_neg c80] at this
        exact this
      · refine r_iload_n (pc := 83) X dX7_had_83 rfl ?_
        refine r_goto (pc := 84) X dX7_had_84 (tgt := 89) (by decide) ?_
        refine r_iret (pc := 89) X dX7_had_89 rfl rfl ?_
        have := hΦ g M R F
        rw [if_pos c80] at this
        exact this
    · exact absurd (show lowH 0 < 0 by decide) c34
  | succ m ih =>
    intro g M c y hm R F hA
    have C := R.C
    subst hF
    show GG w κ 32 [some (.ref 23), some (.int (nI p)), some (.int x), some (.int (nI c)), some (.int y), some (.int (nI m))] [] (wi g M)
    refine r_iload (pc := 32) X dX7_had_32 rfl ?_
    refine r_if_lt (pc := 34) X dX7_had_34 (tgt := 79) (by decide) (fun c34 => ?_) (fun c34 => ?_)
    · exact absurd c34 (nI_pos (by omega))
    · refine r_aload_n (pc := 37) X dX7_had_37 rfl ?_
      refine r_getr (pc := 38) X dX7_had_38 tf_7_29 rfl (kc_23 C) (rc_23_4 C) ?_
      refine r_aload_n (pc := 41) X dX7_had_41 rfl ?_
      refine r_getr (pc := 42) X dX7_had_42 tf_7_25 rfl (kc_23 C) (rc_23_3 C) ?_
      refine r_c0_1G (pc := 45) X rfl dX7_had_45 tc_7_147 mm_X5_become (kc_58 C) rfl rfl (t_become (d + 6) R) (Nat.le_of_ble_eq_true rfl) (fun v45 g45 q45 => ?_)
      obtain ⟨M45, g45, rfl, rfl, T45, F45⟩ := q45
      have C := T45.R.C
      refine r_aload_n (pc := 48) X dX7_had_48 rfl ?_
      refine r_getr (pc := 49) X dX7_had_49 tf_7_29 rfl (kc_23 C) (rc_23_4 C) ?_
      refine r_getr (pc := 52) X dX7_had_52 tf_7_81 rfl (kc_58 C) (rc_58_3 C) ?_
      refine r_iload_n (pc := 55) X dX7_had_55 rfl ?_
      refine r_iload (pc := 56) X dX7_had_56 rfl ?_
      refine r_iastW (pc := 58) X dX7_had_58 (kc_62 C) rfl hp6 (by omega) ?_
      obtain ⟨T58, F58⟩ := T45.uf (f := 4) (k := p) (x := nI m) (by omega) hp6 O.z
      have hW1 := O.w.pers (f := 4) (p := p) (x := nI m) (by omega) ⟨m, by simp; omega, rfl⟩
      refine r_aload_n (pc := 59) X dX7_had_59 rfl ?_
      refine r_c0_0IW (pc := 60) X rfl dX7_had_60 tc_7_185 mm_X7_isAllSeenSo (kc_23 C) rfl rfl (t_seen (d + 2) T58 O O.sn h6 hW1 (O.z.U (by omega)) (by omega)) (Nat.le_of_ble_eq_true rfl) (fun r60 M60 q60 => ?_)
      obtain ⟨rfl, R60, F60⟩ := q60
      have F9 := ((F.tr F45).tr F58).tr F60
      refine r_if_eqB (pc := 63) X dX7_had_63 (tgt := 73) (by decide) (fun c63 => ?_) (fun c63 => ?_)
      · refine r_iinc (pc := 73) X dX7_had_73 rfl (lowH_dec m) ?_
        refine r_goto (pc := 76) X dX7_had_76 (tgt := 32) (by decide) ?_
        exact ih g45 M60 _ _ (by omega) R60 F9 ((if_neg (nt_f c63)).symm.trans hA)
      · refine r_iinc (pc := 66) X dX7_had_66 rfl (by first | exact nI_i1 _ | rfl) ?_
        refine r_iload (pc := 69) X dX7_had_69 rfl ?_
        refine r_istore (pc := 71) X dX7_had_71 (Nat.le_of_ble_eq_true rfl) ?_
        refine r_iinc (pc := 73) X dX7_had_73 rfl (lowH_dec m) ?_
        refine r_goto (pc := 76) X dX7_had_76 (tgt := 32) (by decide) ?_
        exact ih g45 M60 _ _ (by omega) R60 F9 ((if_pos c63).symm.trans hA)
set_option maxRecDepth 10000 in
set_option maxHeartbeats 4000000 in
theorem k_had : ∀ (d : Nat) (p x : Int32) {σ : SG} {h : hp_T} {M : Mem} {B0 : Nat} (R : CRep σ h M) (O : OK B0 σ) (hB : B0 + 2000 ≤ 1000000), Ex (d + 8) nX7_had [.ref 23, .int p, .int x] (wi h M) 0 0 (QC (f_had σ p x) h M) := by
  intro d p x σ h M B0 R O hB
  have C := R.C
  refine Ex.of mm_X7_had (Nat.le_of_ble_eq_true rfl) fun w κ X hk hnm => ?_
  refine r_aload_n (pc := 0) X dX7_had_0 rfl ?_
  refine r_getr (pc := 1) X dX7_had_1 tf_7_25 rfl (kc_23 C) (rc_23_3 C) ?_
  refine r_iload_n (pc := 4) X dX7_had_4 rfl ?_
  refine r_c0_1P (pc := 5) X rfl dX7_had_5 tc_7_68 mm_X5_has (kc_25 C) rfl rfl (u_has (d + 7) p R) (Nat.le_of_ble_eq_true rfl) ?_
  refine r_if_eqB (pc := 8) X dX7_had_8 (tgt := 20) (by decide) (fun c8 => ?_) (fun c8 => ?_)
  · refine r_iconst (pc := 20) (v := (-1)) X dX7_had_20 (by decide) ?_
    refine r_iret (pc := 21) X dX7_had_21 rfl rfl ?_
    refine ⟨QC.mk (σ1 := σ) ?_ R FR.rf, rfl⟩
    simp (decide := true) [f_had, c8]
  · refine r_iload_n (pc := 11) X dX7_had_11 rfl ?_
    refine r_iconst (pc := 12) (v := (nI 0)) X dX7_had_12 (by decide) ?_
    refine r_iconst (pc := 13) (v := (nI 1)) X dX7_had_13 (by decide) ?_
    refine r_c1_3P (pc := 14) X rfl dX7_had_14 tc_7_53 mm_X7_isWithin (e_in (d + 7) x (nI 0) (nI 1)) (Nat.le_of_ble_eq_true rfl) ?_
    refine r_if_neB (pc := 17) X dX7_had_17 (tgt := 22) (by decide) (fun c17 => ?_) (fun c17 => ?_)
    · obtain ⟨p, hp, hp6, rfl⟩ := has_nat O.w c8
      have cp := nI_clamp (show p < 2 ^ 31 by omega)
      refine r_iconst (pc := 22) (v := (nI 0)) X dX7_had_22 (by decide) ?_
      refine r_istore_n (pc := 23) X dX7_had_23 (Nat.le_of_ble_eq_true rfl) ?_
      refine r_bipush (pc := 24) (v := (-5)) X dX7_had_24 (by decide) ?_
      refine r_istore (pc := 26) X dX7_had_26 (Nat.le_of_ble_eq_true rfl) ?_
      refine r_bipush (pc := 28) (v := (nI 9)) X dX7_had_28 (by decide) ?_
      refine r_istore (pc := 30) X dX7_had_30 (Nat.le_of_ble_eq_true rfl) ?_
      refine l_had d O hB X hp6 rfl (fun g M1 R1 F1 => ⟨QC.mk ?_ R1 F1, F1.1⟩) 10 h M 0 (-5) (by omega) R FR.rf rfl
      simp (decide := true) [f_had, c8, c17, cp]
    · refine r_iconst (pc := 20) (v := (-1)) X dX7_had_20 (by decide) ?_
      refine r_iret (pc := 21) X dX7_had_21 rfl rfl ?_
      refine ⟨QC.mk (σ1 := σ) ?_ R FR.rf, rfl⟩
      simp (decide := true) [f_had, c8, c17]
set_option maxRecDepth 10000 in
set_option maxHeartbeats 4000000 in
theorem l_odds : ∀ (d : Nat) {σ : SG} {h0 : hp_T} {M0 : Mem} {B0 : Nat} (O : OK B0 σ) (hB : B0 + 2000 ≤ 1000000) {w : wc_T} {κ : cx_T} {Φ : Option Value → hp_T → Prop} (X : CX w κ (d + 8) 7 cX7_odds 5 (some .long) Φ) {P n : Nat} {x : Int32} (hP : vP (sV σ) = P) (hp0 : 0 < P) (hn : n ≤ 99) {F : Nat → Bool} (hF : F = fun k => endF (goF (EE σ) n (handF (sV σ) (nI k)))) {rr : Nat} (hr : rr ≤ 6)
    (hΦ : ∀ g M1, CRep σ g M1 → FR h0 M0 g M1 → Φ (some (.long (fracF rr P x))) (wi g M1)),
    ∀ (m : Nat) (k : Nat) (g : hp_T) (M : Mem) (c : Nat), k + m = P → CRep σ g M → FR h0 M0 g M → odF F m k c = rr → GG w κ 38 [some (.ref 23), some (.int (nI n)), some (.int x), some (.int (nI c)), some (.int (nI k))] [] (wi g M) := by
  intro d σ h0 M0 B0 O hB w κ Φ X P n x hP hp0 hn F hF rr hr hΦ m
  have h6 := O.w.2.1
  subst hP
  induction m with
  | zero =>
    intro k g M c hk R F hA
    have C := R.C
    have e : k = vP (sV σ) := by omega
    subst e
    have hA : c = rr := hA
    subst hA
    refine r_iload (pc := 38) X dX7_odds_38 rfl ?_
    refine r_aload_n (pc := 40) X dX7_odds_40 rfl ?_
    refine r_getr (pc := 41) X dX7_odds_41 tf_7_25 rfl (kc_23 C) (rc_23_3 C) ?_
    refine r_getiW (pc := 44) X dX7_odds_44 tf_7_160 rfl (kc_25 C) (R.pp O) ?_
    refine r_icmp_geN (pc := 47) X dX7_odds_47 (tgt := 83) (by decide) (by omega) (by omega) (fun c47 => ?_) (fun c47 => ?_)
    · refine r_iload_n (pc := 83) X dX7_odds_83 rfl ?_
      refine r_aload_n (pc := 84) X dX7_odds_84 rfl ?_
      refine r_getr (pc := 85) X dX7_odds_85 tf_7_25 rfl (kc_23 C) (rc_23_3 C) ?_
      refine r_getiW (pc := 88) X dX7_odds_88 tf_7_160 rfl (kc_25 C) (R.pp O) ?_
      refine r_iload_n (pc := 91) X dX7_odds_91 rfl ?_
      refine r_c1_3P (pc := 92) X rfl dX7_odds_92 tc_7_194 mm_X7_fraction (e_frac (d + 7) x (by omega) (by omega) hp0) (Nat.le_of_ble_eq_true rfl) ?_
      refine r_lret (pc := 95) X dX7_odds_95 rfl ?_
      exact hΦ g M R F
    · exact absurd (Nat.le_refl _) c47
  | succ m ih =>
    intro k g M c hk R F hA
    have C := R.C
    subst hF
    have hkp : k < vP (sV σ) := by omega
    refine r_iload (pc := 38) X dX7_odds_38 rfl ?_
    refine r_aload_n (pc := 40) X dX7_odds_40 rfl ?_
    refine r_getr (pc := 41) X dX7_odds_41 tf_7_25 rfl (kc_23 C) (rc_23_3 C) ?_
    refine r_getiW (pc := 44) X dX7_odds_44 tf_7_160 rfl (kc_25 C) (R.pp O) ?_
    refine r_icmp_geN (pc := 47) X dX7_odds_47 (tgt := 83) (by decide) (by omega) (by omega) (fun c47 => ?_) (fun c47 => ?_)
    · exact absurd c47 (by omega)
    · refine r_aload_n (pc := 50) X dX7_odds_50 rfl ?_
      refine r_iload (pc := 51) X dX7_odds_51 rfl ?_
      refine r_c0_1G (pc := 53) X rfl dX7_odds_53 tc_7_163 mm_X7_startWith (kc_23 C) rfl rfl (t_start (d + 5) R O hkp) (Nat.le_of_ble_eq_true rfl) (fun v53 g53 q53 => ?_)
      obtain ⟨M53, g53, rfl, rfl, T53, F53⟩ := q53
      have C := T53.R.C
      refine r_aload_n (pc := 56) X dX7_odds_56 rfl ?_
      refine r_getr (pc := 57) X dX7_odds_57 tf_7_29 rfl (kc_23 C) (rc_23_4 C) ?_
      refine r_iload_n (pc := 60) X dX7_odds_60 rfl ?_
      refine r_c0_1VW (pc := 61) X rfl dX7_odds_61 tc_7_151 mm_X5_go (kc_58 C) rfl rfl (t_go (d + 2) n T53 O (O.w.handN hkp) O.z.hand (by omega) (by omega)) (Nat.le_of_ble_eq_true rfl) (fun M61 q61 => ?_)
      obtain ⟨T61, F61⟩ := q61
      have F9 := (F.tr F53).tr F61
      refine r_aload_n (pc := 64) X dX7_odds_64 rfl ?_
      refine r_getr (pc := 65) X dX7_odds_65 tf_7_29 rfl (kc_23 C) (rc_23_4 C) ?_
      refine r_c0_0P (pc := 68) X rfl dX7_odds_68 tc_7_191 mm_X5_isAtEnd (kc_58 C) rfl rfl (t_end (d + 7) T61) (Nat.le_of_ble_eq_true rfl) ?_
      refine r_if_eqB (pc := 71) X dX7_odds_71 (tgt := 77) (by decide) (fun c71 => ?_) (fun c71 => ?_)
      · refine r_iinc (pc := 77) X dX7_odds_77 rfl (by first | exact nI_i1 _ | rfl) ?_
        refine r_goto (pc := 80) X dX7_odds_80 (tgt := 38) (by decide) ?_
        exact ih (k + 1) g53 M61 _ (by omega) T61.R F9 ((if_neg (nt_f c71)).symm.trans hA)
      · refine r_iinc (pc := 74) X dX7_odds_74 rfl (by first | exact nI_i1 _ | rfl) ?_
        refine r_iinc (pc := 77) X dX7_odds_77 rfl (by first | exact nI_i1 _ | rfl) ?_
        refine r_goto (pc := 80) X dX7_odds_80 (tgt := 38) (by decide) ?_
        exact ih (k + 1) g53 M61 _ (by omega) T61.R F9 ((if_pos c71).symm.trans hA)
set_option maxRecDepth 10000 in
set_option maxHeartbeats 4000000 in
theorem k_odds : ∀ (d : Nat) (n x : Int32) {σ : SG} {h : hp_T} {M : Mem} {B0 : Nat} (R : CRep σ h M) (O : OK B0 σ) (hB : B0 + 2000 ≤ 1000000), Ex (d + 8) nX7_odds [.ref 23, .int n, .int x] (wi h M) 0 0 (QL (f_odds σ n x) h M) := by
  intro d n x σ h M B0 R O hB
  have C := R.C
  refine Ex.of mm_X7_odds (Nat.le_of_ble_eq_true rfl) fun w κ X hk hnm => ?_
  refine r_iload_n (pc := 0) X dX7_odds_0 rfl ?_
  refine r_iconst (pc := 1) (v := (nI 0)) X dX7_odds_1 (by decide) ?_
  refine r_bipush (pc := 2) (v := (nI 99)) X dX7_odds_2 (by decide) ?_
  refine r_c1_3P (pc := 4) X rfl dX7_odds_4 tc_7_53 mm_X7_isWithin (e_in (d + 7) n (nI 0) (nI 99)) (Nat.le_of_ble_eq_true rfl) ?_
  refine r_if_eqB (pc := 7) X dX7_odds_7 (tgt := 29) (by decide) (fun c7 => ?_) (fun c7 => ?_)
  · refine r_ldc2 (pc := 29) (v := (-9223372036854775808)) X dX7_odds_29 tk_7_189 ?_
    refine r_lret (pc := 32) X dX7_odds_32 rfl ?_
    refine ⟨QL.mk (σ1 := σ) ?_ R FR.rf, rfl⟩
    simp (decide := true) [f_odds, c7]
  · refine r_iload_n (pc := 10) X dX7_odds_10 rfl ?_
    refine r_iconst (pc := 11) (v := (nI 0)) X dX7_odds_11 (by decide) ?_
    refine r_iconst (pc := 12) (v := (nI 1)) X dX7_odds_12 (by decide) ?_
    refine r_c1_3P (pc := 13) X rfl dX7_odds_13 tc_7_53 mm_X7_isWithin (e_in (d + 7) x (nI 0) (nI 1)) (Nat.le_of_ble_eq_true rfl) ?_
    refine r_if_eqB (pc := 16) X dX7_odds_16 (tgt := 29) (by decide) (fun c16 => ?_) (fun c16 => ?_)
    · refine r_ldc2 (pc := 29) (v := (-9223372036854775808)) X dX7_odds_29 tk_7_189 ?_
      refine r_lret (pc := 32) X dX7_odds_32 rfl ?_
      refine ⟨QL.mk (σ1 := σ) ?_ R FR.rf, rfl⟩
      simp (decide := true) [f_odds, c7, c16]
    · refine r_aload_n (pc := 19) X dX7_odds_19 rfl ?_
      refine r_getr (pc := 20) X dX7_odds_20 tf_7_25 rfl (kc_23 C) (rc_23_3 C) ?_
      refine r_getiW (pc := 23) X dX7_odds_23 tf_7_160 rfl (kc_25 C) (R.a0 6) ?_
      refine r_if_ne (pc := 26) X dX7_odds_26 (tgt := 33) (by decide) (fun c26 => ?_) (fun c26 => ?_)
      · obtain ⟨t, ht0, ht, rfl⟩ := inF_lo c7 (by omega) (by omega)
        have ct := nI_clamp (show t < 2 ^ 31 by omega)
        have hp0 : 0 < vP (sV σ) := Nat.pos_of_ne_zero fun z => c26 (by rw [O.w.1, z]; rfl)
        have h6 := O.w.2.1
        refine r_iconst (pc := 33) (v := (nI 0)) X dX7_odds_33 (by decide) ?_
        refine r_istore_n (pc := 34) X dX7_odds_34 (Nat.le_of_ble_eq_true rfl) ?_
        refine r_iconst (pc := 35) (v := (nI 0)) X dX7_odds_35 (by decide) ?_
        refine r_istore (pc := 36) X dX7_odds_36 (Nat.le_of_ble_eq_true rfl) ?_
        refine l_odds d O hB X rfl hp0 ht rfl (Nat.le_trans (od_le (vP (sV σ)) 0 0) (by omega)) (fun g M1 R1 F1 => ⟨QL.mk ?_ R1 F1, F1.1⟩) (vP (sV σ)) 0 h M 0 (by omega) R FR.rf rfl
        simp (decide := true) [f_odds, c7, c16, c26, ct]
      · refine r_ldc2 (pc := 29) (v := (-9223372036854775808)) X dX7_odds_29 tk_7_189 ?_
        refine r_lret (pc := 32) X dX7_odds_32 rfl ?_
        refine ⟨QL.mk (σ1 := σ) ?_ R FR.rf, rfl⟩
        simp (decide := true) [f_odds, c7, c16, c26]
set_option maxRecDepth 10000 in
set_option maxHeartbeats 4000000 in
theorem l_mean : ∀ (d : Nat) {σ : SG} {h0 : hp_T} {M0 : Mem} {B0 : Nat} (O : OK B0 σ) (hB : B0 + 2000 ≤ 1000000) {w : wc_T} {κ : cx_T} {Φ : Option Value → hp_T → Prop} (X : CX w κ (d + 8) 7 cX7_mean 5 (some .long) Φ) {n : Nat} {x : Int32} (hn : n ≤ 60) (hn1 : 1 ≤ n) {rr : Nat} (hr : rr < 2 ^ 30)
    (hΦ : ∀ g M1, CRep σ g M1 → FR h0 M0 g M1 → Φ (some (.long (fracF rr n x))) (wi g M1)),
    ∀ (m : Nat) (k : Nat) (g : hp_T) (M : Mem) (V : VT) (c B : Nat), k + m = n + 1 → TS σ g M V → FR h0 M0 g M → WF B V → ZV V → B + 2 * m ≤ 1000000 → meF (EE σ) m V c = rr → GG w κ 39 [some (.ref 23), some (.int (nI n)), some (.int x), some (.int (nI c)), some (.int (nI k))] [] (wi g M) := by
  intro d σ h0 M0 B0 O hB w κ Φ X n x hn hn1 rr hr hΦ m
  have h6 := O.w.2.1
  induction m with
  | zero =>
    intro k g M V c B hk T F hW hz hB2 hA
    have C := T.R.C
    have e : k = n + 1 := by omega
    subst e
    have hA : c = rr := hA
    subst hA
    refine r_iload (pc := 39) X dX7_mean_39 rfl ?_
    refine r_iload_n (pc := 41) X dX7_mean_41 rfl ?_
    refine r_icmp_gtN (pc := 42) X dX7_mean_42 (tgt := 69) (by decide) (by omega) (by omega) (fun c42 => ?_) (fun c42 => ?_)
    · refine r_iload_n (pc := 69) X dX7_mean_69 rfl ?_
      refine r_iload_n (pc := 70) X dX7_mean_70 rfl ?_
      refine r_iload_n (pc := 71) X dX7_mean_71 rfl ?_
      refine r_c1_3P (pc := 72) X rfl dX7_mean_72 tc_7_194 mm_X7_fraction (e_frac (d + 7) x (by omega) (by omega) hn1) (Nat.le_of_ble_eq_true rfl) ?_
      refine r_lret (pc := 75) X dX7_mean_75 rfl ?_
      exact hΦ g M T.R F
    · exact absurd (by omega) c42
  | succ m ih =>
    intro k g M V c B hk T F hW hz hB2 hA
    have C := T.R.C
    refine r_iload (pc := 39) X dX7_mean_39 rfl ?_
    refine r_iload_n (pc := 41) X dX7_mean_41 rfl ?_
    refine r_icmp_gtN (pc := 42) X dX7_mean_42 (tgt := 69) (by decide) (by omega) (by omega) (fun c42 => ?_) (fun c42 => ?_)
    · exact absurd c42 (by omega)
    · refine r_aload_n (pc := 45) X dX7_mean_45 rfl ?_
      refine r_getr (pc := 46) X dX7_mean_46 tf_7_29 rfl (kc_23 C) (rc_23_4 C) ?_
      refine r_c0_0IW (pc := 49) X rfl dX7_mean_49 tc_7_144 mm_X5_move (kc_58 C) rfl rfl (t_move (d + 3) T O hW hz (by omega)) (Nat.le_of_ble_eq_true rfl) (fun r49 M49 q49 => ?_)
      obtain ⟨T49, F49⟩ := q49
      have hW1 := hW.move O.ew (by omega)
      refine r_pop (pc := 52) X dX7_mean_52 rfl ?_
      refine r_iload_n (pc := 53) X dX7_mean_53 rfl ?_
      refine r_aload_n (pc := 54) X dX7_mean_54 rfl ?_
      refine r_getr (pc := 55) X dX7_mean_55 tf_7_29 rfl (kc_23 C) (rc_23_4 C) ?_
      refine r_getiW (pc := 58) X dX7_mean_58 tf_7_108 rfl (kc_58 C) ((T49.a0 8).trans hW1.w8.1) ?_
      refine r_iadd (pc := 61) X dX7_mean_61 ?_
      refine r_top (nI_add _ _) ?_
      refine r_istore_n (pc := 62) X dX7_mean_62 (Nat.le_of_ble_eq_true rfl) ?_
      refine r_iinc (pc := 63) X dX7_mean_63 rfl (by first | exact nI_i1 _ | rfl) ?_
      refine r_goto (pc := 66) X dX7_mean_66 (tgt := 39) (by decide) ?_
      exact ih (k + 1) g M49 _ _ (B + 2) (by omega) T49 (F.tr F49) hW1 (hz.move hW) (by omega) hA
set_option maxRecDepth 10000 in
set_option maxHeartbeats 4000000 in
theorem k_mean : ∀ (d : Nat) (n x : Int32) {σ : SG} {h : hp_T} {M : Mem} {B0 : Nat} (R : CRep σ h M) (O : OK B0 σ) (hB : B0 + 2000 ≤ 1000000), Ex (d + 8) nX7_mean [.ref 23, .int n, .int x] (wi h M) 0 0 (QL (f_mean σ n x) h M) := by
  intro d n x σ h M B0 R O hB
  have C := R.C
  refine Ex.of mm_X7_mean (Nat.le_of_ble_eq_true rfl) fun w κ X hk hnm => ?_
  refine r_iload_n (pc := 0) X dX7_mean_0 rfl ?_
  refine r_iconst (pc := 1) (v := (nI 1)) X dX7_mean_1 (by decide) ?_
  refine r_bipush (pc := 2) (v := (nI 60)) X dX7_mean_2 (by decide) ?_
  refine r_c1_3P (pc := 4) X rfl dX7_mean_4 tc_7_53 mm_X7_isWithin (e_in (d + 7) n (nI 1) (nI 60)) (Nat.le_of_ble_eq_true rfl) ?_
  refine r_if_eqB (pc := 7) X dX7_mean_7 (tgt := 19) (by decide) (fun c7 => ?_) (fun c7 => ?_)
  · refine r_ldc2 (pc := 19) (v := (-9223372036854775808)) X dX7_mean_19 tk_7_189 ?_
    refine r_lret (pc := 22) X dX7_mean_22 rfl ?_
    refine ⟨QL.mk (σ1 := σ) ?_ R FR.rf, rfl⟩
    simp (decide := true) [f_mean, c7]
  · refine r_iload_n (pc := 10) X dX7_mean_10 rfl ?_
    refine r_iconst (pc := 11) (v := (nI 0)) X dX7_mean_11 (by decide) ?_
    refine r_iconst (pc := 12) (v := (nI 1)) X dX7_mean_12 (by decide) ?_
    refine r_c1_3P (pc := 13) X rfl dX7_mean_13 tc_7_53 mm_X7_isWithin (e_in (d + 7) x (nI 0) (nI 1)) (Nat.le_of_ble_eq_true rfl) ?_
    refine r_if_neB (pc := 16) X dX7_mean_16 (tgt := 23) (by decide) (fun c16 => ?_) (fun c16 => ?_)
    · obtain ⟨t, ht0, ht, rfl⟩ := inF_lo c7 (by omega) (by omega)
      have ct := nI_clamp (show t < 2 ^ 31 by omega)
      refine r_iconst (pc := 23) (v := (nI 0)) X dX7_mean_23 (by decide) ?_
      refine r_istore_n (pc := 24) X dX7_mean_24 (Nat.le_of_ble_eq_true rfl) ?_
      refine r_aload_n (pc := 25) X dX7_mean_25 rfl ?_
      refine r_getr (pc := 26) X dX7_mean_26 tf_7_29 rfl (kc_23 C) (rc_23_4 C) ?_
      refine r_aload_n (pc := 29) X dX7_mean_29 rfl ?_
      refine r_getr (pc := 30) X dX7_mean_30 tf_7_25 rfl (kc_23 C) (rc_23_3 C) ?_
      refine r_c0_1G (pc := 33) X rfl dX7_mean_33 tc_7_147 mm_X5_become (kc_58 C) rfl rfl (t_become (d + 6) R) (Nat.le_of_ble_eq_true rfl) (fun v33 g33 q33 => ?_)
      obtain ⟨M33, g33, rfl, rfl, T33, F33⟩ := q33
      have C := T33.R.C
      refine r_iconst (pc := 36) (v := (nI 1)) X dX7_mean_36 (by decide) ?_
      refine r_istore (pc := 37) X dX7_mean_37 (Nat.le_of_ble_eq_true rfl) ?_
      have hm := me_le O.ew t (sV σ) 0 B0 O.w (by omega)
      refine l_mean d O hB X ht ht0 (Nat.lt_of_le_of_lt hm (by omega)) (fun g M1 R1 F1 => ⟨QL.mk ?_ R1 F1, F1.1⟩) t 1 g33 M33 _ 0 B0 (by omega) T33 F33 O.w O.z (by omega) rfl
      simp (decide := true) [f_mean, c7, c16, ct]
    · refine r_ldc2 (pc := 19) (v := (-9223372036854775808)) X dX7_mean_19 tk_7_189 ?_
      refine r_lret (pc := 22) X dX7_mean_22 rfl ?_
      refine ⟨QL.mk (σ1 := σ) ?_ R FR.rf, rfl⟩
      simp (decide := true) [f_mean, c7, c16]
theorem OK.gm {B : Nat} {σ : SG} (O : OK B σ) : (sGa σ).length ≤ 10 ∧ ∀ i, i < (sGa σ).length → ∃ p, pG (sGa σ) i = (nI 0, nI 0) ∨ pG (sGa σ) i = (nI 1, nI 0) ∨ (p < vP (sV σ) ∧ pG (sGa σ) i = (nI 2, nI p)) := O.1.2.2.2.1
theorem WF.heav {B : Nat} {V : VT} (h : WF B V) : WF B (vU V 0 8 (mn (nI 999) (V 0 8 + nI 10))) := by
  obtain ⟨n, hn, e⟩ := h.2.2.2.1
  rw [e, nI_add, mn_nI (by omega) (by omega)]
  exact h.weight (by omega)
theorem play_ok {B P : Nat} {E : EV} {V : VT} {x y : Int32} (hE : EW E) (hW : WF B V) (hB : B + 2 ≤ 1000000) (hP : vP V = P) (hq : ∃ p, (x, y) = (nI 0, nI 0) ∨ (x, y) = (nI 1, nI 0) ∨ (p < P ∧ (x, y) = (nI 2, nI p))) : WF (B + 2) (playF E V x y) ∧ vP (playF E V x y) = P := by
  subst hP
  obtain ⟨p, e | e | ⟨hp, e⟩⟩ := hq
  all_goals
    have e1 := (Prod.mk.inj e).1
    have e2 := (Prod.mk.inj e).2
    subst e1
    subst e2
    unfold playF
  · rw [if_pos rfl]
    exact ⟨hW.move hE hB, move_P⟩
  · rw [if_neg (by decide), if_pos rfl]
    exact ⟨hW.heav.up (by omega) hB, vP_U (by omega)⟩
  · rw [if_neg (by decide), if_neg (by decide)]
    exact ⟨(hW.handN hp).up (by omega) hB, hand_P⟩
theorem play_y {E : EV} {V : VT} {x y z : Int32} (h : x = nI 2 → y = z) (hx : x = nI 0 ∨ x = nI 1 ∨ x = nI 2) : playF E V x y = playF E V x z := by
  rcases hx with e | e | e
  · subst e
    unfold playF
    rw [if_pos rfl, if_pos rfl]
  · subst e
    rfl
  · rw [h e]
theorem gm_x {q : Int32 × Int32} {P : Nat} (h : ∃ p, q = (nI 0, nI 0) ∨ q = (nI 1, nI 0) ∨ (p < P ∧ q = (nI 2, nI p))) : q.1 = nI 0 ∨ q.1 = nI 1 ∨ q.1 = nI 2 := by
  obtain ⟨p, e | e | ⟨-, e⟩⟩ := h
  · rw [e]; exact Or.inl rfl
  · rw [e]; exact Or.inr (Or.inl rfl)
  · rw [e]; exact Or.inr (Or.inr rfl)
set_option maxRecDepth 10000 in
set_option maxHeartbeats 4000000 in
theorem l_gone : ∀ (d : Nat) {σ : SG} {h0 : hp_T} {M0 : Mem} {B0 : Nat} (O : OK B0 σ) (hB : B0 + 2000 ≤ 1000000) {w : wc_T} {κ : cx_T} {Φ : Option Value → hp_T → Prop} (X : CX w κ (d + 8) 7 cX7_gone 3 (some .int) Φ) {x : Int32} {P : Nat} (hP : vP (sV σ) = P) {rr : VT}
    (hΦ : ∀ g M1, CRep σ g M1 → FR h0 M0 g M1 → Φ (some (.int (buckF rr x))) (wi g M1)),
    ∀ (m : Nat) (k : Nat) (g : hp_T) (M : Mem) (V : VT) (B : Nat), k + m = (sGa σ).length → TS σ g M V → FR h0 M0 g M → WF B V → ZV V → vP V = P → B + 2 * m ≤ 1000000 → plF (EE σ) (sGa σ) m k V = rr → GG w κ 24 [some (.ref 23), some (.int x), some (.int (nI k))] [] (wi g M) := by
  intro d σ h0 M0 B0 O hB w κ Φ X x P hP rr hΦ m
  have h6 := O.w.2.1
  have gm := O.gm
  induction m with
  | zero =>
    intro k g M V B hk T F hW hz hPV hB2 hA
    have C := T.R.C
    have ga := T.R.ga
    have e : k = (sGa σ).length := by omega
    subst e
    subst hA
    refine r_iload_n (pc := 24) X dX7_gone_24 rfl ?_
    refine r_aload_n (pc := 25) X dX7_gone_25 rfl ?_
    refine r_getr (pc := 26) X dX7_gone_26 tf_7_12 rfl (kc_23 C) (rc_23_0 C) ?_
    refine r_getr (pc := 29) X dX7_gone_29 tf_7_198 rfl (kc_24 C) (rc_24_2 C) ?_
    refine r_getiW (pc := 32) X dX7_gone_32 tf_7_201 rfl (kc_35 C) ga.1 ?_
    refine r_icmp_geN (pc := 35) X dX7_gone_35 (tgt := 75) (by decide) (by omega) (by omega) (fun c35 => ?_) (fun c35 => ?_)
    · refine r_aload_n (pc := 75) X dX7_gone_75 rfl ?_
      refine r_getr (pc := 76) X dX7_gone_76 tf_7_29 rfl (kc_23 C) (rc_23_4 C) ?_
      refine r_iload_n (pc := 79) X dX7_gone_79 rfl ?_
      refine r_c0_1P (pc := 80) X rfl dX7_gone_80 tc_7_154 mm_X5_bucket (kc_58 C) rfl rfl (t_bucket (d + 6) x T) (Nat.le_of_ble_eq_true rfl) ?_
      refine r_iret (pc := 83) X dX7_gone_83 rfl rfl ?_
      exact hΦ g M T.R F
    · exact absurd (Nat.le_refl _) c35
  | succ m ih =>
    intro k g M V B hk T F hW hz hPV hB2 hA
    have C := T.R.C
    have ga := T.R.ga
    have hkl : k < (sGa σ).length := by omega
    have gk := gm.2 k hkl
    rw [hP] at gk
    refine r_iload_n (pc := 24) X dX7_gone_24 rfl ?_
    refine r_aload_n (pc := 25) X dX7_gone_25 rfl ?_
    refine r_getr (pc := 26) X dX7_gone_26 tf_7_12 rfl (kc_23 C) (rc_23_0 C) ?_
    refine r_getr (pc := 29) X dX7_gone_29 tf_7_198 rfl (kc_24 C) (rc_24_2 C) ?_
    refine r_getiW (pc := 32) X dX7_gone_32 tf_7_201 rfl (kc_35 C) ga.1 ?_
    refine r_icmp_geN (pc := 35) X dX7_gone_35 (tgt := 75) (by decide) (by omega) (by omega) (fun c35 => ?_) (fun c35 => ?_)
    · exact absurd c35 (by omega)
    · refine r_aload_n (pc := 38) X dX7_gone_38 rfl ?_
      refine r_getr (pc := 39) X dX7_gone_39 tf_7_29 rfl (kc_23 C) (rc_23_4 C) ?_
      refine r_aload_n (pc := 42) X dX7_gone_42 rfl ?_
      refine r_getr (pc := 43) X dX7_gone_43 tf_7_12 rfl (kc_23 C) (rc_23_0 C) ?_
      refine r_getr (pc := 46) X dX7_gone_46 tf_7_198 rfl (kc_24 C) (rc_24_2 C) ?_
      refine r_getr (pc := 49) X dX7_gone_49 tf_7_204 rfl (kc_35 C) (rc_35_0 C) ?_
      refine r_iload_n (pc := 52) X dX7_gone_52 rfl ?_
      refine r_ialdW (pc := 53) X dX7_gone_53 (kc_36 C) rfl (by omega) (by omega) (ga.2 k hkl).1 ?_
      refine r_aload_n (pc := 54) X dX7_gone_54 rfl ?_
      refine r_getr (pc := 55) X dX7_gone_55 tf_7_12 rfl (kc_23 C) (rc_23_0 C) ?_
      refine r_getr (pc := 58) X dX7_gone_58 tf_7_198 rfl (kc_24 C) (rc_24_2 C) ?_
      refine r_getr (pc := 61) X dX7_gone_61 tf_7_207 rfl (kc_35 C) (rc_35_1 C) ?_
      refine r_iload_n (pc := 64) X dX7_gone_64 rfl ?_
      refine r_ialdW (pc := 65) X dX7_gone_65 (kc_37 C) rfl (by omega) (by omega) rfl ?_
      refine r_c0_2VW (pc := 66) X rfl dX7_gone_66 tc_7_210 mm_X5_play (kc_58 C) rfl rfl (t_play (d + 2) (pG (sGa σ) k).1 _ T O hW hz) (Nat.le_of_ble_eq_true rfl) (fun M66 q66 => ?_)
      obtain ⟨T66, F66⟩ := q66
      have e9 : playF (EE σ) V (pG (sGa σ) k).1 (M 37 k) = playF (EE σ) V (pG (sGa σ) k).1 (pG (sGa σ) k).2 := play_y (ga.2 k hkl).2 (gm_x gk)
      rw [e9] at T66
      have ok9 := play_ok O.ew hW (by omega) hPV gk
      refine r_iinc (pc := 69) X dX7_gone_69 rfl (by first | exact nI_i1 _ | rfl) ?_
      refine r_goto (pc := 72) X dX7_gone_72 (tgt := 24) (by decide) ?_
      exact ih (k + 1) g M66 _ (B + 2) (by omega) T66 (F.tr F66) ok9.1 (hz.play hW) ok9.2 (by omega) hA
set_option maxRecDepth 10000 in
set_option maxHeartbeats 4000000 in
theorem k_gone : ∀ (d : Nat) (x : Int32) {σ : SG} {h : hp_T} {M : Mem} {B0 : Nat} (R : CRep σ h M) (O : OK B0 σ) (hB : B0 + 2000 ≤ 1000000), Ex (d + 8) nX7_gone [.ref 23, .int x] (wi h M) 0 0 (QC (f_gone σ x) h M) := by
  intro d x σ h M B0 R O hB
  have C := R.C
  refine Ex.of mm_X7_gone (Nat.le_of_ble_eq_true rfl) fun w κ X hk hnm => ?_
  refine r_iload_n (pc := 0) X dX7_gone_0 rfl ?_
  refine r_iconst (pc := 1) (v := (nI 0)) X dX7_gone_1 (by decide) ?_
  refine r_iconst (pc := 2) (v := (nI 2)) X dX7_gone_2 (by decide) ?_
  refine r_c1_3P (pc := 3) X rfl dX7_gone_3 tc_7_53 mm_X7_isWithin (e_in (d + 7) x (nI 0) (nI 2)) (Nat.le_of_ble_eq_true rfl) ?_
  refine r_if_neB (pc := 6) X dX7_gone_6 (tgt := 11) (by decide) (fun c6 => ?_) (fun c6 => ?_)
  · refine r_aload_n (pc := 11) X dX7_gone_11 rfl ?_
    refine r_getr (pc := 12) X dX7_gone_12 tf_7_29 rfl (kc_23 C) (rc_23_4 C) ?_
    refine r_aload_n (pc := 15) X dX7_gone_15 rfl ?_
    refine r_getr (pc := 16) X dX7_gone_16 tf_7_25 rfl (kc_23 C) (rc_23_3 C) ?_
    refine r_c0_1G (pc := 19) X rfl dX7_gone_19 tc_7_147 mm_X5_become (kc_58 C) rfl rfl (t_become (d + 6) R) (Nat.le_of_ble_eq_true rfl) (fun v19 g19 q19 => ?_)
    obtain ⟨M19, g19, rfl, rfl, T19, F19⟩ := q19
    have C := T19.R.C
    refine r_iconst (pc := 22) (v := (nI 0)) X dX7_gone_22 (by decide) ?_
    refine r_istore_n (pc := 23) X dX7_gone_23 (Nat.le_of_ble_eq_true rfl) ?_
    have gm := O.gm.1
    refine l_gone d O hB X rfl (fun g M1 R1 F1 => ⟨QC.mk ?_ R1 F1, F1.1⟩) (sGa σ).length 0 g19 M19 _ B0 (by omega) T19 F19 O.w O.z rfl (by omega) rfl
    simp (decide := true) [f_gone, c6]
  · refine r_iconst (pc := 9) (v := (-1)) X dX7_gone_9 (by decide) ?_
    refine r_iret (pc := 10) X dX7_gone_10 rfl rfl ?_
    refine ⟨QC.mk (σ1 := σ) ?_ R FR.rf, rfl⟩
    simp (decide := true) [f_gone, c6]
