/-! the reference: what is asked -/
theorem no_off {u a P : Nat} (h : u < a) (ha : a < 100) : hasF (nI u - nI a) (nI P) = false := by
  unfold hasF
  rw [decide_eq_true (pk_sneg (by omega) h)]
  rfl
set_option maxRecDepth 10000 in
set_option maxHeartbeats 4000000 in
theorem n_on : ∀ (d : Nat) (n x : Int32) {σ : SG} {h : hp_T} {M : Mem} {B0 : Nat} (C : CS h) (Q : MRep σ M (h_l h)) (O : OK B0 σ) (hB : B0 + 2000 ≤ 1000000), Ex (d + 9) nX8_on [.ref 80, .int n, .int x] (wi h M) 0 0 (QM (f_on σ n x) h M) := by
  intro d n x σ h M B0 C Q O hB
  have h6 := O.w.2.1
  have e10 : inF x (nI 10) (nI 9 + nI (vP (sV σ))) = hasF (x - nI 10) (sV σ 0 6) := by rw [O.w.1]; exact in_off (a := 10) h6 (by omega) (by omega)
  have e20 : inF x (nI 20) (nI 19 + nI (vP (sV σ))) = hasF (x - nI 20) (sV σ 0 6) := by rw [O.w.1]; exact in_off (a := 20) h6 (by omega) (by omega)
  refine Ex.of mm_X8_on (Nat.le_of_ble_eq_true rfl) fun w κ X hk hnm => ?_
  refine r_aload_n (pc := 0) X dX8_on_0 rfl ?_
  refine r_iload_n (pc := 1) X dX8_on_1 rfl ?_
  refine r_iconst (pc := 2) (v := (nI 0)) X dX8_on_2 (by decide) ?_
  refine r_iconst (pc := 3) (v := (nI 2)) X dX8_on_3 (by decide) ?_
  refine r_c0_3P (pc := 4) X rfl dX8_on_4 tc_8_236 mm_X8_in (kc_80 C) rfl rfl (m_in (d + 8) x (nI 0) (nI 2)) (Nat.le_of_ble_eq_true rfl) ?_
  refine r_if_neB (pc := 7) X dX8_on_7 (tgt := 46) (by decide) (fun c7 => ?_) (fun c7 => ?_)
  · refine r_aload_n (pc := 46) X dX8_on_46 rfl ?_
    refine r_iload_n (pc := 47) X dX8_on_47 rfl ?_
    refine r_iconst (pc := 48) (v := (nI 0)) X dX8_on_48 (by decide) ?_
    refine r_bipush (pc := 49) (v := (nI 99)) X dX8_on_49 (by decide) ?_
    refine r_c0_3P (pc := 51) X rfl dX8_on_51 tc_8_236 mm_X8_in (kc_80 C) rfl rfl (m_in (d + 8) n (nI 0) (nI 99)) (Nat.le_of_ble_eq_true rfl) ?_
    refine r_if_neB (pc := 54) X dX8_on_54 (tgt := 60) (by decide) (fun c54 => ?_) (fun c54 => ?_)
    · obtain ⟨t, -, ht, rfl⟩ := inF_lo c54 (by omega) (by omega)
      have ct := nI_clamp (show t < 2 ^ 31 by omega)
      obtain ⟨u, -, hu, rfl⟩ := inF_lo c7 (by omega) (by omega)
      refine r_aload_n (pc := 60) X dX8_on_60 rfl ?_
      refine r_c0_0VW (pc := 61) X rfl dX8_on_61 tc_8_353 mm_X8_save (kc_80 C) rfl rfl (a_save (d + 8) C Q O) (Nat.le_of_ble_eq_true rfl) (fun M61 q61 => ?_)
      refine r_aload_n (pc := 64) X dX8_on_64 rfl ?_
      refine r_iload_n (pc := 65) X dX8_on_65 rfl ?_
      refine r_c0_1VW (pc := 66) X rfl dX8_on_66 tc_8_356 mm_X8_goSteps (kc_80 C) rfl rfl (a_go (d + 2) t C q61 O O.w (by omega) (by omega)) (Nat.le_of_ble_eq_true rfl) (fun M66 q66 => ?_)
      have hWg := O.w.goes O.ew t (by omega)
      refine r_iload_n (pc := 69) X dX8_on_69 rfl ?_
      refine r_if_ne (pc := 70) X dX8_on_70 (tgt := 84) (by decide) (fun c70 => ?_) (fun c70 => ?_)
      · refine r_iload_n (pc := 84) X dX8_on_84 rfl ?_
        refine r_iconst (pc := 85) (v := (nI 1)) X dX8_on_85 (by decide) ?_
        refine r_icmp_ne (pc := 86) X dX8_on_86 (tgt := 96) (by decide) (fun c86 => ?_) (fun c86 => ?_)
        · refine r_iload_n (pc := 96) X dX8_on_96 rfl ?_
          refine r_iconst (pc := 97) (v := (nI 2)) X dX8_on_97 (by decide) ?_
          refine r_icmp_ne (pc := 98) X dX8_on_98 (tgt := 112) (by decide) (fun c98 => ?_) (fun c98 => ?_)
          · exact absurd (show u = 0 ∨ u = 1 ∨ u = 2 by omega) (fun z => z.elim (fun z => c70 (by rw [z]; rfl)) (fun z => z.elim (fun z => c86 (by rw [z])) (fun z => c98 (by rw [z]))))
          · refine r_aload_n (pc := 101) X dX8_on_101 rfl ?_
            refine r_aload_n (pc := 102) X dX8_on_102 rfl ?_
            refine r_getiW (pc := 103) X dX8_on_103 tf_8_22 rfl (kc_80 C) (q66.s.2.2.2.2.1) ?_
            refine r_c0_1P (pc := 106) X rfl dX8_on_106 tc_8_254 mm_X8_orNone (kc_80 C) rfl rfl (m_orNone (d + 8) _) (Nat.le_of_ble_eq_true rfl) ?_
            refine r_top (or_en hWg) ?_
            refine r_goto (pc := 109) X dX8_on_109 (tgt := 139) (by decide) ?_
            refine r_istore_n (pc := 139) X dX8_on_139 (Nat.le_of_ble_eq_true rfl) ?_
            refine r_aload_n (pc := 140) X dX8_on_140 rfl ?_
            refine r_c0_0VW (pc := 141) X rfl dX8_on_141 tc_8_359 mm_X8_putBack (kc_80 C) rfl rfl (a_back (d + 8) C q66 Q O) (Nat.le_of_ble_eq_true rfl) (fun M141 q141 => ?_)
            refine r_iload_n (pc := 144) X dX8_on_144 rfl ?_
            refine r_iret (pc := 145) X dX8_on_145 rfl rfl ?_
            refine ⟨QM.mk (σ1 := σ) ?_ q141.1 q141.2, rfl⟩
            have h10 : hasF (nI u - nI 10) (sV σ 0 6) = false := by rw [O.w.1]; exact no_off (by omega) (by omega)
            have h20 : hasF (nI u - nI 20) (sV σ 0 6) = false := by rw [O.w.1]; exact no_off (by omega) (by omega)
            have hu0 : u = 2 := (nI_eq (by omega) (by omega)).mp c98
            subst hu0
            simp (decide := true) [f_on, buckF, h10, h20, c7, c54, ct]
        · refine r_aload_n (pc := 89) X dX8_on_89 rfl ?_
          refine r_getiW (pc := 90) X dX8_on_90 tf_8_19 rfl (kc_80 C) (q66.s.2.2.2.1) ?_
          refine r_goto (pc := 93) X dX8_on_93 (tgt := 139) (by decide) ?_
          refine r_istore_n (pc := 139) X dX8_on_139 (Nat.le_of_ble_eq_true rfl) ?_
          refine r_aload_n (pc := 140) X dX8_on_140 rfl ?_
          refine r_c0_0VW (pc := 141) X rfl dX8_on_141 tc_8_359 mm_X8_putBack (kc_80 C) rfl rfl (a_back (d + 8) C q66 Q O) (Nat.le_of_ble_eq_true rfl) (fun M141 q141 => ?_)
          refine r_iload_n (pc := 144) X dX8_on_144 rfl ?_
          refine r_iret (pc := 145) X dX8_on_145 rfl rfl ?_
          refine ⟨QM.mk (σ1 := σ) ?_ q141.1 q141.2, rfl⟩
          have h10 : hasF (nI u - nI 10) (sV σ 0 6) = false := by rw [O.w.1]; exact no_off (by omega) (by omega)
          have h20 : hasF (nI u - nI 20) (sV σ 0 6) = false := by rw [O.w.1]; exact no_off (by omega) (by omega)
          have hu0 : u = 1 := (nI_eq (by omega) (by omega)).mp c86
          subst hu0
          simp (decide := true) [f_on, buckF, h10, h20, c7, c54, ct]
      · refine r_aload_n (pc := 73) X dX8_on_73 rfl ?_
        refine r_aload_n (pc := 74) X dX8_on_74 rfl ?_
        refine r_getiW (pc := 75) X dX8_on_75 tf_8_16 rfl (kc_80 C) (q66.s.2.2.1) ?_
        refine r_c0_1P (pc := 78) X rfl dX8_on_78 tc_8_254 mm_X8_orNone (kc_80 C) rfl rfl (m_orNone (d + 8) _) (Nat.le_of_ble_eq_true rfl) ?_
        refine r_top (or_bk hWg) ?_
        refine r_goto (pc := 81) X dX8_on_81 (tgt := 139) (by decide) ?_
        refine r_istore_n (pc := 139) X dX8_on_139 (Nat.le_of_ble_eq_true rfl) ?_
        refine r_aload_n (pc := 140) X dX8_on_140 rfl ?_
        refine r_c0_0VW (pc := 141) X rfl dX8_on_141 tc_8_359 mm_X8_putBack (kc_80 C) rfl rfl (a_back (d + 8) C q66 Q O) (Nat.le_of_ble_eq_true rfl) (fun M141 q141 => ?_)
        refine r_iload_n (pc := 144) X dX8_on_144 rfl ?_
        refine r_iret (pc := 145) X dX8_on_145 rfl rfl ?_
        refine ⟨QM.mk (σ1 := σ) ?_ q141.1 q141.2, rfl⟩
        have h10 : hasF (nI u - nI 10) (sV σ 0 6) = false := by rw [O.w.1]; exact no_off (by omega) (by omega)
        have h20 : hasF (nI u - nI 20) (sV σ 0 6) = false := by rw [O.w.1]; exact no_off (by omega) (by omega)
        have hu0 : u = 0 := (nI_eq (by omega) (by omega)).mp c70
        subst hu0
        simp (decide := true) [f_on, buckF, h10, h20, c7, c54, ct]
    · refine r_bipush (pc := 57) (v := (-2)) X dX8_on_57 (by decide) ?_
      refine r_iret (pc := 59) X dX8_on_59 rfl rfl ?_
      refine ⟨QM.mk (σ1 := σ) ?_ Q FM.rf, rfl⟩
      simp (decide := true) [f_on, c7, c54]
  · refine r_aload_n (pc := 10) X dX8_on_10 rfl ?_
    refine r_iload_n (pc := 11) X dX8_on_11 rfl ?_
    refine r_bipush (pc := 12) (v := (nI 10)) X dX8_on_12 (by decide) ?_
    refine r_bipush (pc := 14) (v := (nI 9)) X dX8_on_14 (by decide) ?_
    refine r_aload_n (pc := 16) X dX8_on_16 rfl ?_
    refine r_getiW (pc := 17) X dX8_on_17 tf_8_7 rfl (kc_80 C) (Q.pp O) ?_
    refine r_iadd (pc := 20) X dX8_on_20 ?_
    refine r_c0_3P (pc := 21) X rfl dX8_on_21 tc_8_236 mm_X8_in (kc_80 C) rfl rfl (m_in (d + 8) x (nI 10) (nI 9 + nI (vP (sV σ)))) (Nat.le_of_ble_eq_true rfl) ?_
    refine r_if_neB (pc := 24) X dX8_on_24 (tgt := 46) (by decide) (fun c24 => ?_) (fun c24 => ?_)
    · refine r_aload_n (pc := 46) X dX8_on_46 rfl ?_
      refine r_iload_n (pc := 47) X dX8_on_47 rfl ?_
      refine r_iconst (pc := 48) (v := (nI 0)) X dX8_on_48 (by decide) ?_
      refine r_bipush (pc := 49) (v := (nI 99)) X dX8_on_49 (by decide) ?_
      refine r_c0_3P (pc := 51) X rfl dX8_on_51 tc_8_236 mm_X8_in (kc_80 C) rfl rfl (m_in (d + 8) n (nI 0) (nI 99)) (Nat.le_of_ble_eq_true rfl) ?_
      refine r_if_neB (pc := 54) X dX8_on_54 (tgt := 60) (by decide) (fun c54 => ?_) (fun c54 => ?_)
      · obtain ⟨t, -, ht, rfl⟩ := inF_lo c54 (by omega) (by omega)
        have ct := nI_clamp (show t < 2 ^ 31 by omega)
        obtain ⟨p, hp, hp6, ep⟩ := has_nat O.w (e10.symm.trans c24)
        have ex : x = nI (p + 10) := by rw [← nI_add, ← ep, Int32.sub_add_cancel]
        subst ex
        refine r_aload_n (pc := 60) X dX8_on_60 rfl ?_
        refine r_c0_0VW (pc := 61) X rfl dX8_on_61 tc_8_353 mm_X8_save (kc_80 C) rfl rfl (a_save (d + 8) C Q O) (Nat.le_of_ble_eq_true rfl) (fun M61 q61 => ?_)
        refine r_aload_n (pc := 64) X dX8_on_64 rfl ?_
        refine r_iload_n (pc := 65) X dX8_on_65 rfl ?_
        refine r_c0_1VW (pc := 66) X rfl dX8_on_66 tc_8_356 mm_X8_goSteps (kc_80 C) rfl rfl (a_go (d + 2) t C q61 O O.w (by omega) (by omega)) (Nat.le_of_ble_eq_true rfl) (fun M66 q66 => ?_)
        have hWg := O.w.goes O.ew t (by omega)
        refine r_iload_n (pc := 69) X dX8_on_69 rfl ?_
        refine r_if_ne (pc := 70) X dX8_on_70 (tgt := 84) (by decide) (fun c70 => ?_) (fun c70 => ?_)
        · refine r_iload_n (pc := 84) X dX8_on_84 rfl ?_
          refine r_iconst (pc := 85) (v := (nI 1)) X dX8_on_85 (by decide) ?_
          refine r_icmp_ne (pc := 86) X dX8_on_86 (tgt := 96) (by decide) (fun c86 => ?_) (fun c86 => ?_)
          · refine r_iload_n (pc := 96) X dX8_on_96 rfl ?_
            refine r_iconst (pc := 97) (v := (nI 2)) X dX8_on_97 (by decide) ?_
            refine r_icmp_ne (pc := 98) X dX8_on_98 (tgt := 112) (by decide) (fun c98 => ?_) (fun c98 => ?_)
            · refine r_iload_n (pc := 112) X dX8_on_112 rfl ?_
              refine r_bipush (pc := 113) (v := (nI 20)) X dX8_on_113 (by decide) ?_
              refine r_icmp_ge (pc := 115) X dX8_on_115 (tgt := 130) (by decide) (fun c115 => ?_) (fun c115 => ?_)
              · exact absurd c115 (nI_ge (by omega) (by omega))
              · refine r_aload_n (pc := 118) X dX8_on_118 rfl ?_
                refine r_getr (pc := 119) X dX8_on_119 tf_8_35 rfl (kc_80 C) (rc_80_8 C) ?_
                refine r_iload_n (pc := 122) X dX8_on_122 rfl ?_
                refine r_bipush (pc := 123) (v := (nI 10)) X dX8_on_123 (by decide) ?_
                refine r_isub (pc := 125) X dX8_on_125 ?_
                refine r_ialdW (pc := 126) X dX8_on_126 (kc_84 C) ep hp6 (by omega) (q66.a4 _) ?_
                refine r_goto (pc := 127) X dX8_on_127 (tgt := 139) (by decide) ?_
                refine r_istore_n (pc := 139) X dX8_on_139 (Nat.le_of_ble_eq_true rfl) ?_
                refine r_aload_n (pc := 140) X dX8_on_140 rfl ?_
                refine r_c0_0VW (pc := 141) X rfl dX8_on_141 tc_8_359 mm_X8_putBack (kc_80 C) rfl rfl (a_back (d + 8) C q66 Q O) (Nat.le_of_ble_eq_true rfl) (fun M141 q141 => ?_)
                refine r_iload_n (pc := 144) X dX8_on_144 rfl ?_
                refine r_iret (pc := 145) X dX8_on_145 rfl rfl ?_
                refine ⟨QM.mk (σ1 := σ) ?_ q141.1 q141.2, rfl⟩
                have c24 := e10.symm.trans c24
                have cp := nI_clamp (show p < 2 ^ 31 by omega)
                have e9 : goF (EE σ) t (sV σ) 4 p = goF (EE σ) t (sV σ) 4 (nI (p + 10) - nI 10).toNatClampNeg := by rw [ep, cp]
                rw [e9]
                simp (decide := true) [f_on, c24, c54, ct]
            · exact absurd ((nI_eq (by omega) (by omega)).mp c98) (by omega)
          · exact absurd ((nI_eq (by omega) (by omega)).mp c86) (by omega)
        · exact absurd c70 (nI_ne0 (by omega) (by omega))
      · refine r_bipush (pc := 57) (v := (-2)) X dX8_on_57 (by decide) ?_
        refine r_iret (pc := 59) X dX8_on_59 rfl rfl ?_
        refine ⟨QM.mk (σ1 := σ) ?_ Q FM.rf, rfl⟩
        have c24 := e10.symm.trans c24
        simp (decide := true) [f_on, c7, c24, c54]
    · refine r_aload_n (pc := 27) X dX8_on_27 rfl ?_
      refine r_iload_n (pc := 28) X dX8_on_28 rfl ?_
      refine r_bipush (pc := 29) (v := (nI 20)) X dX8_on_29 (by decide) ?_
      refine r_bipush (pc := 31) (v := (nI 19)) X dX8_on_31 (by decide) ?_
      refine r_aload_n (pc := 33) X dX8_on_33 rfl ?_
      refine r_getiW (pc := 34) X dX8_on_34 tf_8_7 rfl (kc_80 C) (Q.pp O) ?_
      refine r_iadd (pc := 37) X dX8_on_37 ?_
      refine r_c0_3P (pc := 38) X rfl dX8_on_38 tc_8_236 mm_X8_in (kc_80 C) rfl rfl (m_in (d + 8) x (nI 20) (nI 19 + nI (vP (sV σ)))) (Nat.le_of_ble_eq_true rfl) ?_
      refine r_if_neB (pc := 41) X dX8_on_41 (tgt := 46) (by decide) (fun c41 => ?_) (fun c41 => ?_)
      · refine r_aload_n (pc := 46) X dX8_on_46 rfl ?_
        refine r_iload_n (pc := 47) X dX8_on_47 rfl ?_
        refine r_iconst (pc := 48) (v := (nI 0)) X dX8_on_48 (by decide) ?_
        refine r_bipush (pc := 49) (v := (nI 99)) X dX8_on_49 (by decide) ?_
        refine r_c0_3P (pc := 51) X rfl dX8_on_51 tc_8_236 mm_X8_in (kc_80 C) rfl rfl (m_in (d + 8) n (nI 0) (nI 99)) (Nat.le_of_ble_eq_true rfl) ?_
        refine r_if_neB (pc := 54) X dX8_on_54 (tgt := 60) (by decide) (fun c54 => ?_) (fun c54 => ?_)
        · obtain ⟨t, -, ht, rfl⟩ := inF_lo c54 (by omega) (by omega)
          have ct := nI_clamp (show t < 2 ^ 31 by omega)
          obtain ⟨p, hp, hp6, ep⟩ := has_nat O.w (e20.symm.trans c41)
          have ex : x = nI (p + 20) := by rw [← nI_add, ← ep, Int32.sub_add_cancel]
          subst ex
          refine r_aload_n (pc := 60) X dX8_on_60 rfl ?_
          refine r_c0_0VW (pc := 61) X rfl dX8_on_61 tc_8_353 mm_X8_save (kc_80 C) rfl rfl (a_save (d + 8) C Q O) (Nat.le_of_ble_eq_true rfl) (fun M61 q61 => ?_)
          refine r_aload_n (pc := 64) X dX8_on_64 rfl ?_
          refine r_iload_n (pc := 65) X dX8_on_65 rfl ?_
          refine r_c0_1VW (pc := 66) X rfl dX8_on_66 tc_8_356 mm_X8_goSteps (kc_80 C) rfl rfl (a_go (d + 2) t C q61 O O.w (by omega) (by omega)) (Nat.le_of_ble_eq_true rfl) (fun M66 q66 => ?_)
          have hWg := O.w.goes O.ew t (by omega)
          refine r_iload_n (pc := 69) X dX8_on_69 rfl ?_
          refine r_if_ne (pc := 70) X dX8_on_70 (tgt := 84) (by decide) (fun c70 => ?_) (fun c70 => ?_)
          · refine r_iload_n (pc := 84) X dX8_on_84 rfl ?_
            refine r_iconst (pc := 85) (v := (nI 1)) X dX8_on_85 (by decide) ?_
            refine r_icmp_ne (pc := 86) X dX8_on_86 (tgt := 96) (by decide) (fun c86 => ?_) (fun c86 => ?_)
            · refine r_iload_n (pc := 96) X dX8_on_96 rfl ?_
              refine r_iconst (pc := 97) (v := (nI 2)) X dX8_on_97 (by decide) ?_
              refine r_icmp_ne (pc := 98) X dX8_on_98 (tgt := 112) (by decide) (fun c98 => ?_) (fun c98 => ?_)
              · refine r_iload_n (pc := 112) X dX8_on_112 rfl ?_
                refine r_bipush (pc := 113) (v := (nI 20)) X dX8_on_113 (by decide) ?_
                refine r_icmp_ge (pc := 115) X dX8_on_115 (tgt := 130) (by decide) (fun c115 => ?_) (fun c115 => ?_)
                · refine r_aload_n (pc := 130) X dX8_on_130 rfl ?_
                  refine r_getr (pc := 131) X dX8_on_131 tf_8_38 rfl (kc_80 C) (rc_80_9 C) ?_
                  refine r_iload_n (pc := 134) X dX8_on_134 rfl ?_
                  refine r_bipush (pc := 135) (v := (nI 20)) X dX8_on_135 (by decide) ?_
                  refine r_isub (pc := 137) X dX8_on_137 ?_
                  refine r_ialdW (pc := 138) X dX8_on_138 (kc_85 C) ep hp6 (by omega) (q66.a5 _) ?_
                  refine r_istore_n (pc := 139) X dX8_on_139 (Nat.le_of_ble_eq_true rfl) ?_
                  refine r_aload_n (pc := 140) X dX8_on_140 rfl ?_
                  refine r_c0_0VW (pc := 141) X rfl dX8_on_141 tc_8_359 mm_X8_putBack (kc_80 C) rfl rfl (a_back (d + 8) C q66 Q O) (Nat.le_of_ble_eq_true rfl) (fun M141 q141 => ?_)
                  refine r_iload_n (pc := 144) X dX8_on_144 rfl ?_
                  refine r_iret (pc := 145) X dX8_on_145 rfl rfl ?_
                  refine ⟨QM.mk (σ1 := σ) ?_ q141.1 q141.2, rfl⟩
                  have c24 := e10.symm.trans c24
                  have c41 := e20.symm.trans c41
                  have cp := nI_clamp (show p < 2 ^ 31 by omega)
                  have e9 : goF (EE σ) t (sV σ) 5 p = goF (EE σ) t (sV σ) 5 (nI (p + 20) - nI 20).toNatClampNeg := by rw [ep, cp]
                  rw [e9]
                  simp (decide := true) [f_on, c24, c41, c54, ct]
                · exact absurd (nI_le (by omega) (by omega)) c115
              · exact absurd ((nI_eq (by omega) (by omega)).mp c98) (by omega)
            · exact absurd ((nI_eq (by omega) (by omega)).mp c86) (by omega)
          · exact absurd c70 (nI_ne0 (by omega) (by omega))
        · refine r_bipush (pc := 57) (v := (-2)) X dX8_on_57 (by decide) ?_
          refine r_iret (pc := 59) X dX8_on_59 rfl rfl ?_
          refine ⟨QM.mk (σ1 := σ) ?_ Q FM.rf, rfl⟩
          have c41 := e20.symm.trans c41
          simp (decide := true) [f_on, c7, c24, c41, c54]
      · refine r_iconst (pc := 44) (v := (-1)) X dX8_on_44 (by decide) ?_
        refine r_iret (pc := 45) X dX8_on_45 rfl rfl ?_
        refine ⟨QM.mk (σ1 := σ) ?_ Q FM.rf, rfl⟩
        have c24 := e10.symm.trans c24
        have c41 := e20.symm.trans c41
        simp (decide := true) [f_on, c7, c24, c41]
set_option maxRecDepth 10000 in
set_option maxHeartbeats 4000000 in
theorem lm_longest : ∀ (d : Nat) {σ : SG} {h : hp_T} {M0 : Mem} {B0 : Nat} (C : CS h) (O : OK B0 σ) (hB : B0 + 2000 ≤ 1000000) {w : wc_T} {κ : cx_T} {Φ : Option Value → hp_T → Prop} (X : CX w κ (d + 9) 8 cX8_longest 5 (some .int) Φ) {P : Nat} (hP : vP (sV σ) = P) {F : Nat → Int32} (hF : F = fun q => nI (endN (EE σ) (handF (sV σ) (nI q)))) {rr : Int32 × Int32}
    (hΦ : ∀ M1, MRep σ M1 (h_l h) → FM h M0 (h_l h) M1 → Φ (some (.int rr.1)) (wi h M1)),
    ∀ (m : Nat) (k : Nat) (M : Mem) (b l : Int32) (z : Option Value), k + m = P → MRep σ M (h_l h) → FM h M0 (h_l h) M → amax F k = (b, l) → amax F P = rr → GG w κ 7 [some (.ref 80), some (.int b), some (.int l), some (.int (nI k)), z] [] (wi h M) := by
  intro d σ h M0 B0 C O hB w κ Φ X P hP F hF rr hΦ m
  have h6 := O.w.2.1
  subst hP
  induction m with
  | zero =>
    intro k M b l z hk Q F hA hR
    have e : k = vP (sV σ) := by omega
    subst e
    rw [hA] at hR
    subst hR
    refine r_iload_n (pc := 7) X dX8_longest_7 rfl ?_
    refine r_aload_n (pc := 8) X dX8_longest_8 rfl ?_
    refine r_getiW (pc := 9) X dX8_longest_9 tf_8_7 rfl (kc_80 C) (Q.pp O) ?_
    refine r_icmp_geN (pc := 12) X dX8_longest_12 (tgt := 54) (by decide) (by omega) (by omega) (fun c12 => ?_) (fun c12 => ?_)
    · refine r_iload_n (pc := 54) X dX8_longest_54 rfl ?_
      refine r_iret (pc := 55) X dX8_longest_55 rfl rfl ?_
      exact hΦ M Q F
    · exact absurd (Nat.le_refl _) c12
  | succ m ih =>
    intro k M b l z hk Q F hA hR
    have hkp : k < vP (sV σ) := by omega
    have hW1 := O.w.handN hkp
    refine r_iload_n (pc := 7) X dX8_longest_7 rfl ?_
    refine r_aload_n (pc := 8) X dX8_longest_8 rfl ?_
    refine r_getiW (pc := 9) X dX8_longest_9 tf_8_7 rfl (kc_80 C) (Q.pp O) ?_
    refine r_icmp_geN (pc := 12) X dX8_longest_12 (tgt := 54) (by decide) (by omega) (by omega) (fun c12 => ?_) (fun c12 => ?_)
    · exact absurd c12 (by omega)
    · refine r_aload_n (pc := 15) X dX8_longest_15 rfl ?_
      refine r_c0_0VW (pc := 16) X rfl dX8_longest_16 tc_8_353 mm_X8_save (kc_80 C) rfl rfl (a_save (d + 8) C Q O) (Nat.le_of_ble_eq_true rfl) (fun M16 q16 => ?_)
      refine r_aload_n (pc := 19) X dX8_longest_19 rfl ?_
      refine r_iload_n (pc := 20) X dX8_longest_20 rfl ?_
      refine r_c0_1VW (pc := 21) X rfl dX8_longest_21 tc_8_250 mm_X8_gives (kc_80 C) rfl rfl (a_gives (d + 8) C q16 O.w hkp) (Nat.le_of_ble_eq_true rfl) (fun M21 q21 => ?_)
      refine r_aload_n (pc := 24) X dX8_longest_24 rfl ?_
      refine r_c0_0IW (pc := 25) X rfl dX8_longest_25 tc_8_362 mm_X8_toEnd (kc_80 C) rfl rfl (a_toEnd (d + 2) C q21 O hW1 (by omega)) (Nat.le_of_ble_eq_true rfl) (fun r25 M25 q25 => ?_)
      obtain ⟨rfl, V25, r25⟩ := q25
      refine r_istore (pc := 28) X dX8_longest_28 (Nat.le_of_ble_eq_true rfl) ?_
      refine r_aload_n (pc := 30) X dX8_longest_30 rfl ?_
      refine r_c0_0VW (pc := 31) X rfl dX8_longest_31 tc_8_359 mm_X8_putBack (kc_80 C) rfl rfl (a_back (d + 8) C r25 Q O) (Nat.le_of_ble_eq_true rfl) (fun M31 q31 => ?_)
      obtain ⟨Q1, F1⟩ := q31
      refine r_iload (pc := 34) X dX8_longest_34 rfl ?_
      refine r_iload_n (pc := 36) X dX8_longest_36 rfl ?_
      refine r_icmp_gt (pc := 37) X dX8_longest_37 (tgt := 43) (by decide) (fun c37 => ?_) (fun c37 => ?_)
      · refine r_iload_n (pc := 43) X dX8_longest_43 rfl ?_
        refine r_istore_n (pc := 44) X dX8_longest_44 (Nat.le_of_ble_eq_true rfl) ?_
        refine r_iload (pc := 45) X dX8_longest_45 rfl ?_
        refine r_istore_n (pc := 47) X dX8_longest_47 (Nat.le_of_ble_eq_true rfl) ?_
        refine r_iinc (pc := 48) X dX8_longest_48 rfl (by first | exact nI_i1 _ | rfl) ?_
        refine r_goto (pc := 51) X dX8_longest_51 (tgt := 7) (by decide) ?_
        exact ih (k + 1) M31 _ _ _ (by omega) Q1 (F.tr F1) (by subst hF; simp only [amax, hA]; exact if_neg (Int32.not_le.mpr c37)) hR
      · refine r_goto (pc := 40) X dX8_longest_40 (tgt := 48) (by decide) ?_
        refine r_iinc (pc := 48) X dX8_longest_48 rfl (by first | exact nI_i1 _ | rfl) ?_
        refine r_goto (pc := 51) X dX8_longest_51 (tgt := 7) (by decide) ?_
        exact ih (k + 1) M31 _ _ _ (by omega) Q1 (F.tr F1) (by subst hF; simp only [amax, hA]; exact if_pos (Int32.not_lt.mp c37)) hR
set_option maxRecDepth 10000 in
set_option maxHeartbeats 4000000 in
theorem n_longest : ∀ (d : Nat) {σ : SG} {h : hp_T} {M : Mem} {B0 : Nat} (C : CS h) (Q : MRep σ M (h_l h)) (O : OK B0 σ) (hB : B0 + 2000 ≤ 1000000), Ex (d + 9) nX8_longest [.ref 80] (wi h M) 0 0 (QM (f_longest σ) h M) := by
  intro d σ h M B0 C Q O hB
  refine Ex.of mm_X8_longest (Nat.le_of_ble_eq_true rfl) fun w κ X hk hnm => ?_
  refine r_bipush (pc := 0) (v := (-5)) X dX8_longest_0 (by decide) ?_
  refine r_istore_n (pc := 2) X dX8_longest_2 (Nat.le_of_ble_eq_true rfl) ?_
  refine r_iconst (pc := 3) (v := (-1)) X dX8_longest_3 (by decide) ?_
  refine r_istore_n (pc := 4) X dX8_longest_4 (Nat.le_of_ble_eq_true rfl) ?_
  refine r_iconst (pc := 5) (v := (nI 0)) X dX8_longest_5 (by decide) ?_
  refine r_istore_n (pc := 6) X dX8_longest_6 (Nat.le_of_ble_eq_true rfl) ?_
  exact lm_longest d C O hB X rfl rfl (fun M1 Q1 F1 => ⟨QM.mk rfl Q1 F1, rfl⟩) (vP (sV σ)) 0 M _ _ _ (by omega) Q FM.rf rfl rfl
theorem go_said {E : EV} (hE : EW E) : ∀ (n : Nat) (V : VT) (B : Nat), WF B V → B + 2 * n ≤ 1000000 → ∀ p, p < 6 → V 5 p ≤ goF E n V 5 p := by
  have one : ∀ (V : VT) (B : Nat), WF B V → B + 2 ≤ 1000000 → ∀ p, p < 6 → V 5 p ≤ (moveF E V).2 5 p := by
    intro V B hW hB p hp
    unfold moveF
    split
    · exact Int32.le_refl _
    · show V 5 p ≤ vU (carryF E V (vW V) ((targetF E V (vW V)).getD 0)).2 0 9 ((carryF E V (vW V) ((targetF E V (vW V)).getD 0)).2 0 9 + nI 1) 5 p
      rw [vU_ne (by omega)]
      unfold carryF
      split
      · split
        · show V 5 p ≤ vU V 0 10 (nI (vW V)) 5 p
          rw [vU_ne (by omega)]
          exact Int32.le_refl _
        · show V 5 p ≤ vU (vU (vU V 4 (vW V) (V 4 (vW V) - nI 1)) 5 (vW V) (V 5 (vW V) + nI 1)) 0 8 (mn (nI 999) (V 0 8 + E.2.1)) 5 p
          rw [vU_ne (by omega)]
          by_cases e : p = vW V
          · subst e
            rw [vU_eq]
            obtain ⟨-, -, -, -, n, hn, e5⟩ := hW.2.2.2.2.2.2.1 (vW V) hp
            rw [e5, nI_add]
            exact nI_le (by omega) (by omega)
          · rw [vU_ne (by omega), vU_ne (by omega)]
            exact Int32.le_refl _
      · show V 5 p ≤ vU (vU V 0 8 (mx (nI 0) (mn (nI 999) (V 0 8 + rainF E V (vW V))))) 0 7 (nI ((targetF E V (vW V)).getD 0)) 5 p
        rw [vU_ne (by omega), vU_ne (by omega)]
        exact Int32.le_refl _
  intro n
  induction n with
  | zero => intro V B _ _ p _; exact Int32.le_refl _
  | succ n ih =>
    intro V B hW hB p hp
    exact Int32.le_trans (one V B hW (by omega) p hp) (ih _ (B + 2) (hW.move hE (by omega)) (by omega) p hp)
theorem sub_pos {B C p : Nat} {V U : VT} (hW : WF B V) (hU : WF C U) (hp : p < 6) (h : V 5 p ≤ U 5 p) : ∃ n, n ≤ C ∧ U 5 p - V 5 p = nI n := by
  obtain ⟨-, -, -, -, a, ha, ea⟩ := hW.2.2.2.2.2.2.1 p hp
  obtain ⟨-, -, -, -, b, hb, eb⟩ := hU.2.2.2.2.2.2.1 p hp
  have h1 := hW.2.2.2.2.2.2.2.2
  have h2 := hU.2.2.2.2.2.2.2.2
  rw [ea, eb] at h ⊢
  have hab := (nI_leI (by omega) (by omega)).mp h
  exact ⟨b - a, by omega, nI_subn hab⟩
/-- the least so far: the reference begins at -1 -/
def aminM (f : Nat → Int32) : Nat → Int32 × Int32
  | 0 => (0, -1)
  | k + 1 => if ¬ (aminM f k).2 < 0 ∧ (aminM f k).2 ≤ f k then aminM f k else (nI k, f k)
theorem amin_M {f : Nat → Int32} (hf : ∀ k, k < 20 → ∃ n, n < 2 ^ 31 - 1 ∧ f k = nI n) : ∀ k, k < 20 → aminM f (k + 1) = amin f (k + 1) ∧ ∃ n, n < 2 ^ 31 - 1 ∧ (amin f (k + 1)).2 = nI n := by
  intro k
  induction k with
  | zero =>
    intro _
    obtain ⟨n, hn, e⟩ := hf 0 (by omega)
    have e1 : aminM f 1 = (nI 0, f 0) := if_neg (fun z => z.1 (show ((0 : Int32), (-1 : Int32)).2 < 0 by decide))
    have e2 : amin f 1 = (nI 0, f 0) := by
      show (if (2147483647 : Int32) ≤ f 0 then _ else _) = _
      rw [if_neg]
      rw [e]
      exact nI_ge (b := 2147483647) (by omega) (by omega)
    exact ⟨e1.trans e2.symm, n, hn, by rw [e2]; exact e⟩
  | succ k ih =>
    intro hk
    obtain ⟨i1, n, hn, e⟩ := ih (by omega)
    obtain ⟨n2, hn2, e2⟩ := hf (k + 1) hk
    have key : aminM f (k + 2) = amin f (k + 2) := by
      show (if ¬ (aminM f (k + 1)).2 < 0 ∧ (aminM f (k + 1)).2 ≤ f (k + 1) then aminM f (k + 1) else _) = (if (amin f (k + 1)).2 ≤ f (k + 1) then amin f (k + 1) else _)
      rw [i1, e]
      by_cases c : nI n ≤ f (k + 1)
      · rw [if_pos ⟨nI_pos (by omega), c⟩, if_pos c]
      · rw [if_neg (fun z => c z.2), if_neg c]
    refine ⟨key, ?_⟩
    show ∃ m, m < 2 ^ 31 - 1 ∧ (if (amin f (k + 1)).2 ≤ f (k + 1) then amin f (k + 1) else (nI (k + 1), f (k + 1))).2 = nI m
    split
    · exact ⟨n, hn, e⟩
    · exact ⟨n2, hn2, e2⟩
set_option maxRecDepth 10000 in
set_option maxHeartbeats 4000000 in
theorem lm_stand : ∀ (d : Nat) {σ : SG} {h : hp_T} {M0 : Mem} {B0 : Nat} (C : CS h) (O : OK B0 σ) (hB : B0 + 2000 ≤ 1000000) {w : wc_T} {κ : cx_T} {Φ : Option Value → hp_T → Prop} (X : CX w κ (d + 9) 8 cX8_stand 8 (some .int) Φ) {p t : Nat} {x : Int32} (hp6 : p < 6) (ht : t ≤ 60) {F : Nat → Int32} (hF : F = fun e => goF (EE σ) t (vU (sV σ) 3 p (nI e)) 5 p - sV σ 5 p)
    (hΦ : ∀ M1, MRep σ M1 (h_l h) → FM h M0 (h_l h) M1 → Φ (some (.int (if x = 0 then (aminM F 20).1 else (aminM F 20).2))) (wi h M1)),
    ∀ (m : Nat) (k : Nat) (M : Mem) (b l : Int32) (z : Option Value), k + m = 20 → MRep σ M (h_l h) → FM h M0 (h_l h) M → aminM F k = (b, l) → GG w κ 40 [some (.ref 80), some (.int (nI p)), some (.int (nI t)), some (.int x), some (.int b), some (.int l), some (.int (nI k)), z] [] (wi h M) := by
  intro d σ h M0 B0 C O hB w κ Φ X p t x hp6 ht F hF hΦ m
  have h6 := O.w.2.1
  induction m with
  | zero =>
    intro k M b l z hk Q F hA
    have e : k = 20 := by omega
    subst e
    rw [hA] at hΦ
    refine r_iload (pc := 40) X dX8_stand_40 rfl ?_
    refine r_bipush (pc := 42) (v := (nI 20)) X dX8_stand_42 (by decide) ?_
    refine r_icmp_geN (pc := 44) X dX8_stand_44 (tgt := 112) (by decide) (by omega) (by omega) (fun c44 => ?_) (fun c44 => ?_)
    · refine r_iload_n (pc := 112) X dX8_stand_112 rfl ?_
      refine r_if_ne (pc := 113) X dX8_stand_113 (tgt := 121) (by decide) (fun c113 => ?_) (fun c113 => ?_)
      · refine r_iload (pc := 121) X dX8_stand_121 rfl ?_
        refine r_iret (pc := 123) X dX8_stand_123 rfl rfl ?_
        have := hΦ M Q F
        rw [if_neg c113] at this
        exact this
      · refine r_iload (pc := 116) X dX8_stand_116 rfl ?_
        refine r_goto (pc := 118) X dX8_stand_118 (tgt := 123) (by decide) ?_
        refine r_iret (pc := 123) X dX8_stand_123 rfl rfl ?_
        have := hΦ M Q F
        rw [if_pos c113] at this
        exact this
    · exact absurd (Nat.le_refl _) c44
  | succ m ih =>
    intro k M b l z hk Q F hA
    have hW1 := O.w.pers (f := 3) (p := p) (x := nI k) (by omega) ⟨k, by simp; omega, rfl⟩
    refine r_iload (pc := 40) X dX8_stand_40 rfl ?_
    refine r_bipush (pc := 42) (v := (nI 20)) X dX8_stand_42 (by decide) ?_
    refine r_icmp_geN (pc := 44) X dX8_stand_44 (tgt := 112) (by decide) (by omega) (by omega) (fun c44 => ?_) (fun c44 => ?_)
    · exact absurd c44 (by omega)
    · refine r_aload_n (pc := 47) X dX8_stand_47 rfl ?_
      refine r_c0_0VW (pc := 48) X rfl dX8_stand_48 tc_8_353 mm_X8_save (kc_80 C) rfl rfl (a_save (d + 8) C Q O) (Nat.le_of_ble_eq_true rfl) (fun M48 q48 => ?_)
      refine r_aload_n (pc := 51) X dX8_stand_51 rfl ?_
      refine r_getr (pc := 52) X dX8_stand_52 tf_8_32 rfl (kc_80 C) (rc_80_7 C) ?_
      refine r_iload_n (pc := 55) X dX8_stand_55 rfl ?_
      refine r_iload (pc := 56) X dX8_stand_56 rfl ?_
      refine r_iastW (pc := 58) X dX8_stand_58 (kc_83 C) rfl hp6 (by omega) ?_
      have r58 := q48.uf (f := 3) (k := p) (x := nI k) (by omega) hp6
      refine r_aload_n (pc := 59) X dX8_stand_59 rfl ?_
      refine r_iload_n (pc := 60) X dX8_stand_60 rfl ?_
      refine r_c0_1VW (pc := 61) X rfl dX8_stand_61 tc_8_356 mm_X8_goSteps (kc_80 C) rfl rfl (a_go (d + 2) t C r58 O hW1 (by omega) (by omega)) (Nat.le_of_ble_eq_true rfl) (fun M61 q61 => ?_)
      refine r_aload_n (pc := 64) X dX8_stand_64 rfl ?_
      refine r_getr (pc := 65) X dX8_stand_65 tf_8_38 rfl (kc_80 C) (rc_80_9 C) ?_
      refine r_iload_n (pc := 68) X dX8_stand_68 rfl ?_
      refine r_ialdW (pc := 69) X dX8_stand_69 (kc_85 C) rfl hp6 (by omega) (q61.a5 p) ?_
      refine r_aload_n (pc := 70) X dX8_stand_70 rfl ?_
      refine r_getr (pc := 71) X dX8_stand_71 tf_8_120 rfl (kc_80 C) (rc_80_36 C) ?_
      refine r_iload_n (pc := 74) X dX8_stand_74 rfl ?_
      refine r_ialdW (pc := 75) X dX8_stand_75 (kc_99 C) rfl hp6 (by omega) (q61.k5 hp6) ?_
      refine r_isub (pc := 76) X dX8_stand_76 ?_
      refine r_istore (pc := 77) X dX8_stand_77 (Nat.le_of_ble_eq_true rfl) ?_
      refine r_aload_n (pc := 79) X dX8_stand_79 rfl ?_
      refine r_c0_0VW (pc := 80) X rfl dX8_stand_80 tc_8_359 mm_X8_putBack (kc_80 C) rfl rfl (a_back (d + 8) C q61 Q O) (Nat.le_of_ble_eq_true rfl) (fun M80 q80 => ?_)
      obtain ⟨Q1, F1⟩ := q80
      refine r_iload (pc := 83) X dX8_stand_83 rfl ?_
      refine r_if_lt (pc := 85) X dX8_stand_85 (tgt := 98) (by decide) (fun c85 => ?_) (fun c85 => ?_)
      · refine r_iload (pc := 98) X dX8_stand_98 rfl ?_
        refine r_istore (pc := 100) X dX8_stand_100 (Nat.le_of_ble_eq_true rfl) ?_
        refine r_iload (pc := 102) X dX8_stand_102 rfl ?_
        refine r_istore (pc := 104) X dX8_stand_104 (Nat.le_of_ble_eq_true rfl) ?_
        refine r_iinc (pc := 106) X dX8_stand_106 rfl (by first | exact nI_i1 _ | rfl) ?_
        refine r_goto (pc := 109) X dX8_stand_109 (tgt := 40) (by decide) ?_
        exact ih (k + 1) M80 _ _ _ (by omega) Q1 (F.tr F1) (by subst hF; simp only [aminM, hA]; exact if_neg (fun z => z.1 c85))
      · refine r_iload (pc := 88) X dX8_stand_88 rfl ?_
        refine r_iload (pc := 90) X dX8_stand_90 rfl ?_
        refine r_icmp_lt (pc := 92) X dX8_stand_92 (tgt := 98) (by decide) (fun c92 => ?_) (fun c92 => ?_)
        · refine r_iload (pc := 98) X dX8_stand_98 rfl ?_
          refine r_istore (pc := 100) X dX8_stand_100 (Nat.le_of_ble_eq_true rfl) ?_
          refine r_iload (pc := 102) X dX8_stand_102 rfl ?_
          refine r_istore (pc := 104) X dX8_stand_104 (Nat.le_of_ble_eq_true rfl) ?_
          refine r_iinc (pc := 106) X dX8_stand_106 rfl (by first | exact nI_i1 _ | rfl) ?_
          refine r_goto (pc := 109) X dX8_stand_109 (tgt := 40) (by decide) ?_
          exact ih (k + 1) M80 _ _ _ (by omega) Q1 (F.tr F1) (by subst hF; simp only [aminM, hA]; exact if_neg (fun z => Int32.not_le.mpr c92 z.2))
        · refine r_goto (pc := 95) X dX8_stand_95 (tgt := 106) (by decide) ?_
          refine r_iinc (pc := 106) X dX8_stand_106 rfl (by first | exact nI_i1 _ | rfl) ?_
          refine r_goto (pc := 109) X dX8_stand_109 (tgt := 40) (by decide) ?_
          exact ih (k + 1) M80 _ _ _ (by omega) Q1 (F.tr F1) (by subst hF; simp only [aminM, hA]; exact if_pos ⟨c85, Int32.not_lt.mp c92⟩)
set_option maxRecDepth 10000 in
set_option maxHeartbeats 4000000 in
theorem n_stand : ∀ (d : Nat) (p n x : Int32) {σ : SG} {h : hp_T} {M : Mem} {B0 : Nat} (C : CS h) (Q : MRep σ M (h_l h)) (O : OK B0 σ) (hB : B0 + 2000 ≤ 1000000), Ex (d + 9) nX8_stand [.ref 80, .int p, .int n, .int x] (wi h M) 0 0 (QM (f_stand σ p n x) h M) := by
  intro d p n x σ h M B0 C Q O hB
  refine Ex.of mm_X8_stand (Nat.le_of_ble_eq_true rfl) fun w κ X hk hnm => ?_
  refine r_aload_n (pc := 0) X dX8_stand_0 rfl ?_
  refine r_iload_n (pc := 1) X dX8_stand_1 rfl ?_
  refine r_c0_1P (pc := 2) X rfl dX8_stand_2 tc_8_247 mm_X8_isPerson (kc_80 C) rfl rfl (m_isPerson (d + 7) p C Q.s O.w) (Nat.le_of_ble_eq_true rfl) ?_
  refine r_if_eqB (pc := 5) X dX8_stand_5 (tgt := 18) (by decide) (fun c5 => ?_) (fun c5 => ?_)
  · refine r_iconst (pc := 18) (v := (-1)) X dX8_stand_18 (by decide) ?_
    refine r_iret (pc := 19) X dX8_stand_19 rfl rfl ?_
    refine ⟨QM.mk (σ1 := σ) ?_ Q FM.rf, rfl⟩
    simp (decide := true) [f_stand, c5]
  · refine r_aload_n (pc := 8) X dX8_stand_8 rfl ?_
    refine r_iload_n (pc := 9) X dX8_stand_9 rfl ?_
    refine r_iconst (pc := 10) (v := (nI 0)) X dX8_stand_10 (by decide) ?_
    refine r_iconst (pc := 11) (v := (nI 1)) X dX8_stand_11 (by decide) ?_
    refine r_c0_3P (pc := 12) X rfl dX8_stand_12 tc_8_236 mm_X8_in (kc_80 C) rfl rfl (m_in (d + 8) x (nI 0) (nI 1)) (Nat.le_of_ble_eq_true rfl) ?_
    refine r_if_neB (pc := 15) X dX8_stand_15 (tgt := 20) (by decide) (fun c15 => ?_) (fun c15 => ?_)
    · obtain ⟨p, hp, hp6, rfl⟩ := has_nat O.w c5
      have cp := nI_clamp (show p < 2 ^ 31 by omega)
      refine r_aload_n (pc := 20) X dX8_stand_20 rfl ?_
      refine r_iload_n (pc := 21) X dX8_stand_21 rfl ?_
      refine r_c0_1P (pc := 22) X rfl dX8_stand_22 tc_8_368 mm_X8_isFew (kc_80 C) rfl rfl (m_isFew (d + 7) n C) (Nat.le_of_ble_eq_true rfl) ?_
      refine r_if_neB (pc := 25) X dX8_stand_25 (tgt := 31) (by decide) (fun c25 => ?_) (fun c25 => ?_)
      · obtain ⟨t, ht0, ht, rfl⟩ := inF_lo c25 (by omega) (by omega)
        have ct := nI_clamp (show t < 2 ^ 31 by omega)
        refine r_iconst (pc := 31) (v := (nI 0)) X dX8_stand_31 (by decide) ?_
        refine r_istore (pc := 32) X dX8_stand_32 (Nat.le_of_ble_eq_true rfl) ?_
        refine r_iconst (pc := 34) (v := (-1)) X dX8_stand_34 (by decide) ?_
        refine r_istore (pc := 35) X dX8_stand_35 (Nat.le_of_ble_eq_true rfl) ?_
        refine r_iconst (pc := 37) (v := (nI 0)) X dX8_stand_37 (by decide) ?_
        refine r_istore (pc := 38) X dX8_stand_38 (Nat.le_of_ble_eq_true rfl) ?_
        have hmM : ∀ k, k < 20 → ∃ n, n < 2 ^ 31 - 1 ∧ (fun e => goF (EE σ) t (vU (sV σ) 3 p (nI e)) 5 p - sV σ 5 p) k = nI n := fun k hk => by
          have hW1 := O.w.pers (f := 3) (p := p) (x := nI k) (by omega) ⟨k, by simp; omega, rfl⟩
          have h9 := go_said O.ew t _ B0 hW1 (by omega) p hp6
          rw [vU_ne (by omega)] at h9
          obtain ⟨n, hn, e⟩ := sub_pos O.w (hW1.goes O.ew t (by omega)) hp6 h9
          exact ⟨n, by omega, e⟩
        refine lm_stand d C O hB X hp6 ht rfl (fun M1 Q1 F1 => ⟨QM.mk ?_ Q1 F1, rfl⟩) 20 0 M _ _ _ (by omega) Q FM.rf rfl
        rw [(amin_M hmM 19 (by omega)).1]
        simp (decide := true) [f_stand, c5, c15, c25, cp, ct]
      · refine r_bipush (pc := 28) (v := (-2)) X dX8_stand_28 (by decide) ?_
        refine r_iret (pc := 30) X dX8_stand_30 rfl rfl ?_
        refine ⟨QM.mk (σ1 := σ) ?_ Q FM.rf, rfl⟩
        simp (decide := true) [f_stand, c5, c15, c25]
    · refine r_iconst (pc := 18) (v := (-1)) X dX8_stand_18 (by decide) ?_
      refine r_iret (pc := 19) X dX8_stand_19 rfl rfl ?_
      refine ⟨QM.mk (σ1 := σ) ?_ Q FM.rf, rfl⟩
      simp (decide := true) [f_stand, c5, c15]
