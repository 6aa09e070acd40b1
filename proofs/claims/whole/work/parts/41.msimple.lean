/-! what is simple of the reference -/
theorem vU_same {V : VT} {f i : Nat} {x : Int32} (h : V f i = x) : vU V f i x = V := by
  rw [← h]
  exact vU_id
theorem MSt.kept {V : VT} {M M1 : Mem} (S : MSt V M) (h0 : ∀ j, j ≤ 4 → M1 80 j = M 80 j) (k : ∀ b, 81 ≤ b → b ≤ 86 → M1 b = M b) : MSt V M1 := by
  unfold MSt
  rw [h0 0 (by omega), h0 1 (by omega), h0 2 (by omega), h0 3 (by omega), h0 4 (by omega)]
  refine ⟨S.1, S.2.1, S.2.2.1, S.2.2.2.1, S.2.2.2.2.1, fun f h1 h2 => ?_⟩
  rw [k (80 + f) (by omega) (by omega)]
  exact S.2.2.2.2.2 f h1 h2
theorem MSt.join {V : VT} {M : Mem} {P : Nat} {b : Int32} (S : MSt V M) (hP : P < 6) (eb : b = V 0 7) : MSt (vU V 0 6 (nI P + nI 1)) (mU (mU M 80 (upd (M 80) 2 b)) 80 (upd (mU M 80 (upd (M 80) 2 b) 80) 0 (nI P + nI 1))) := by
  have ne : ¬ nI P + nI 1 = 0 := by rw [nI_add]; exact nI_ne0 (by omega) (by omega)
  refine ⟨?_, ?_, ?_, ?_, ?_, fun f h1 h2 => ?_⟩
  · rw [mU_eq, vU_eq]; exact pk_us
  · rw [mU_eq, mU_eq, vU_ne (by omega), pk_un (by omega), pk_un (by omega)]; exact S.2.1
  · rw [mU_eq, mU_eq, pk_un (by omega), pk_us]
    unfold bkF
    rw [vU_eq, if_neg ne, vU_ne (by omega)]
    exact eb
  · rw [mU_eq, mU_eq, vU_ne (by omega), pk_un (by omega), pk_un (by omega)]; exact S.2.2.2.1
  · rw [mU_eq, mU_eq, pk_un (by omega), pk_un (by omega)]
    unfold enF
    rw [vU_ne (by omega)]
    exact S.2.2.2.2.1
  · rw [mU_ne (by omega), mU_ne (by omega), S.2.2.2.2.2 f h1 h2]; funext j; rw [vU_ne (by omega)]
theorem FS.j {M : Mem} {j : Nat} {x : Int32} (hj : j ≤ 4) : FS M (mU M 80 (upd (M 80) j x)) := FS.u0 hj
set_option maxRecDepth 10000 in
set_option maxHeartbeats 4000000 in
theorem lm_rows : ∀ (d : Nat) {V : VT} {h : hp_T} {M0 : Mem} (C : CS h) {P : Nat} (hP : P < 6) (hV : V 0 6 = nI P) (hz : ∀ j, j < 4 → V 6 (P * 4 + j) = 0) {a b c e : Int32} {w : wc_T} {κ : cx_T} {Φ : Option Value → hp_T → Prop} (X : CX w κ d 8 cX8_person 6 (some .int) Φ)
    (hT : ∀ M1 z, MSt V M1 → FS M0 M1 → GG w κ 137 [some (.ref 80), some (.int a), some (.int b), some (.int c), some (.int e), z] [] (wi h M1)),
    ∀ (m k : Nat) (M : Mem), k + m = 4 → MSt V M → FS M0 M → GG w κ 110 [some (.ref 80), some (.int a), some (.int b), some (.int c), some (.int e), some (.int (nI k))] [] (wi h M) := by
  intro d V h M0 C P hP hV hz a b c e w κ Φ X hT m
  induction m with
  | zero =>
    intro k M hk S F
    have e : k = 4 := by omega
    subst e
    refine r_iload (pc := 110) X dX8_person_110 rfl ?_
    refine r_iconst (pc := 112) (v := (nI 4)) X dX8_person_112 (by decide) ?_
    refine r_icmp_geN (pc := 113) X dX8_person_113 (tgt := 137) (by decide) (by omega) (by omega) (fun c113 => ?_) (fun c113 => ?_)
    · exact hT M _ S F
    · exact absurd (Nat.le_refl _) c113
  | succ m ih =>
    intro k M hk S F
    have S1 := S.uf (f := 6) (k := P * 4 + k) (x := nI 0) (by omega)
    rw [vU_same (show V 6 (P * 4 + k) = nI 0 from hz k (by omega))] at S1
    refine r_iload (pc := 110) X dX8_person_110 rfl ?_
    refine r_iconst (pc := 112) (v := (nI 4)) X dX8_person_112 (by decide) ?_
    refine r_icmp_geN (pc := 113) X dX8_person_113 (tgt := 137) (by decide) (by omega) (by omega) (fun c113 => ?_) (fun c113 => ?_)
    · exact absurd c113 (by omega)
    · refine r_aload_n (pc := 116) X dX8_person_116 rfl ?_
      refine r_getr (pc := 117) X dX8_person_117 tf_8_41 rfl (kc_80 C) (rc_80_10 C) ?_
      refine r_iconst (pc := 120) (v := (nI 4)) X dX8_person_120 (by decide) ?_
      refine r_aload_n (pc := 121) X dX8_person_121 rfl ?_
      refine r_getiW (pc := 122) X dX8_person_122 tf_8_7 rfl (kc_80 C) (S.1.trans hV) ?_
      refine r_imul (pc := 125) X dX8_person_125 ?_
      refine r_iload (pc := 126) X dX8_person_126 rfl ?_
      refine r_iadd (pc := 128) X dX8_person_128 ?_
      refine r_top (y := nI (P * 4 + k)) (by rw [pk_mul, nI_add, Nat.mul_comm]) ?_
      refine r_iconst (pc := 129) (v := (nI 0)) X dX8_person_129 (by decide) ?_
      refine r_iastW (pc := 130) X dX8_person_130 (kc_86 C) rfl (show P * 4 + k < 24 by omega) (by omega) ?_
      refine r_iinc (pc := 131) X dX8_person_131 rfl (by first | exact nI_i1 _ | rfl) ?_
      refine r_goto (pc := 134) X dX8_person_134 (tgt := 110) (by decide) ?_
      exact ih (k + 1) _ (by omega) S1 (F.tr (FS.uf (by omega)))
set_option maxRecDepth 10000 in
set_option maxHeartbeats 4000000 in
theorem n_person : ∀ (d : Nat) (k v e n : Int32) {σ : SG} {h : hp_T} {M : Mem} {B0 : Nat} (C : CS h) (Q : MRep σ M (h_l h)) (O : OK B0 σ), Ex (d + 9) nX8_person [.ref 80, .int k, .int v, .int e, .int n] (wi h M) 0 0 (QM (f_person σ k v e n) h M) := by
  intro d k v e n σ h M B0 C Q O
  have h6 := O.w.2.1
  have nz := O.1.1.2.2 (vP (sV σ)) (Nat.le_refl _)
  refine Ex.of mm_X8_person (Nat.le_of_ble_eq_true rfl) fun w κ X hk hnm => ?_
  refine r_aload_n (pc := 0) X dX8_person_0 rfl ?_
  refine r_iload_n (pc := 1) X dX8_person_1 rfl ?_
  refine r_iconst (pc := 2) (v := (nI 0)) X dX8_person_2 (by decide) ?_
  refine r_bipush (pc := 3) (v := (nI 6)) X dX8_person_3 (by decide) ?_
  refine r_c0_3P (pc := 5) X rfl dX8_person_5 tc_8_236 mm_X8_in (kc_80 C) rfl rfl (m_in (d + 8) k (nI 0) (nI 6)) (Nat.le_of_ble_eq_true rfl) ?_
  refine r_if_neB (pc := 8) X dX8_person_8 (tgt := 13) (by decide) (fun c8 => ?_) (fun c8 => ?_)
  · refine r_aload_n (pc := 13) X dX8_person_13 rfl ?_
    refine r_iload_n (pc := 14) X dX8_person_14 rfl ?_
    refine r_iconst (pc := 15) (v := (nI 0)) X dX8_person_15 (by decide) ?_
    refine r_bipush (pc := 16) (v := (nI 9)) X dX8_person_16 (by decide) ?_
    refine r_c0_3P (pc := 18) X rfl dX8_person_18 tc_8_236 mm_X8_in (kc_80 C) rfl rfl (m_in (d + 8) v (nI 0) (nI 9)) (Nat.le_of_ble_eq_true rfl) ?_
    refine r_if_eqB (pc := 21) X dX8_person_21 (tgt := 41) (by decide) (fun c21 => ?_) (fun c21 => ?_)
    · refine r_bipush (pc := 41) (v := (-2)) X dX8_person_41 (by decide) ?_
      refine r_iret (pc := 43) X dX8_person_43 rfl rfl ?_
      refine ⟨QM.mk (σ1 := σ) ?_ Q FM.rf, rfl⟩
      simp (decide := true) [f_person, c8, c21]
    · refine r_aload_n (pc := 24) X dX8_person_24 rfl ?_
      refine r_iload_n (pc := 25) X dX8_person_25 rfl ?_
      refine r_c0_1P (pc := 26) X rfl dX8_person_26 tc_8_240 mm_X8_isDoor (kc_80 C) rfl rfl (m_isDoor (d + 7) e C) (Nat.le_of_ble_eq_true rfl) ?_
      refine r_if_eqB (pc := 29) X dX8_person_29 (tgt := 41) (by decide) (fun c29 => ?_) (fun c29 => ?_)
      · refine r_bipush (pc := 41) (v := (-2)) X dX8_person_41 (by decide) ?_
        refine r_iret (pc := 43) X dX8_person_43 rfl rfl ?_
        refine ⟨QM.mk (σ1 := σ) ?_ Q FM.rf, rfl⟩
        simp (decide := true) [f_person, c8, c21, c29]
      · refine r_aload_n (pc := 32) X dX8_person_32 rfl ?_
        refine r_iload (pc := 33) X dX8_person_33 rfl ?_
        refine r_c0_1P (pc := 35) X rfl dX8_person_35 tc_8_244 mm_X8_isHopes (kc_80 C) rfl rfl (m_isHopes (d + 7) n C) (Nat.le_of_ble_eq_true rfl) ?_
        refine r_if_neB (pc := 38) X dX8_person_38 (tgt := 44) (by decide) (fun c38 => ?_) (fun c38 => ?_)
        · refine r_aload_n (pc := 44) X dX8_person_44 rfl ?_
          refine r_getiW (pc := 45) X dX8_person_45 tf_8_7 rfl (kc_80 C) (Q.pp O) ?_
          refine r_bipush (pc := 48) (v := (nI 6)) X dX8_person_48 (by decide) ?_
          refine r_icmp_neN (pc := 50) X dX8_person_50 (tgt := 56) (by decide) (by omega) (by omega) (fun c50 => ?_) (fun c50 => ?_)
          · have hP6 : vP (sV σ) < 6 := by omega
            have ej : joinF (sV σ) k v e n = (nI (vP (sV σ)), vU (vU (vU (vU (vU (sV σ) 1 (vP (sV σ)) k) 2 (vP (sV σ)) v) 3 (vP (sV σ)) e) 4 (vP (sV σ)) n) 0 6 (nI (vP (sV σ)) + nI 1)) := by
              unfold joinF
              rw [O.w.1]
              exact if_pos (nI_lt hP6 (by omega))
            refine r_aload_n (pc := 56) X dX8_person_56 rfl ?_
            refine r_getr (pc := 57) X dX8_person_57 tf_8_25 rfl (kc_80 C) (rc_80_5 C) ?_
            refine r_aload_n (pc := 60) X dX8_person_60 rfl ?_
            refine r_getiW (pc := 61) X dX8_person_61 tf_8_7 rfl (kc_80 C) (Q.pp O) ?_
            refine r_iload_n (pc := 64) X dX8_person_64 rfl ?_
            refine r_iastW (pc := 65) X dX8_person_65 (kc_81 C) rfl (show vP (sV σ) < 6 by omega) (by omega) ?_
            refine r_aload_n (pc := 66) X dX8_person_66 rfl ?_
            refine r_getr (pc := 67) X dX8_person_67 tf_8_29 rfl (kc_80 C) (rc_80_6 C) ?_
            refine r_aload_n (pc := 70) X dX8_person_70 rfl ?_
            refine r_getiW (pc := 71) X dX8_person_71 tf_8_7 rfl (kc_80 C) (show mU M 81 _ 80 0 = nI (vP (sV σ)) by rw [mU_ne (by omega)]; exact Q.pp O) ?_
            refine r_iload_n (pc := 74) X dX8_person_74 rfl ?_
            refine r_iastW (pc := 75) X dX8_person_75 (kc_82 C) rfl (show vP (sV σ) < 6 by omega) (by omega) ?_
            refine r_aload_n (pc := 76) X dX8_person_76 rfl ?_
            refine r_getr (pc := 77) X dX8_person_77 tf_8_32 rfl (kc_80 C) (rc_80_7 C) ?_
            refine r_aload_n (pc := 80) X dX8_person_80 rfl ?_
            refine r_getiW (pc := 81) X dX8_person_81 tf_8_7 rfl (kc_80 C) (show mU _ 82 _ 80 0 = nI (vP (sV σ)) by rw [mU_ne (by omega), mU_ne (by omega)]; exact Q.pp O) ?_
            refine r_iload_n (pc := 84) X dX8_person_84 rfl ?_
            refine r_iastW (pc := 85) X dX8_person_85 (kc_83 C) rfl (show vP (sV σ) < 6 by omega) (by omega) ?_
            refine r_aload_n (pc := 86) X dX8_person_86 rfl ?_
            refine r_getr (pc := 87) X dX8_person_87 tf_8_35 rfl (kc_80 C) (rc_80_8 C) ?_
            refine r_aload_n (pc := 90) X dX8_person_90 rfl ?_
            refine r_getiW (pc := 91) X dX8_person_91 tf_8_7 rfl (kc_80 C) (show mU _ 83 _ 80 0 = nI (vP (sV σ)) by rw [mU_ne (by omega), mU_ne (by omega), mU_ne (by omega)]; exact Q.pp O) ?_
            refine r_iload (pc := 94) X dX8_person_94 rfl ?_
            refine r_iastW (pc := 96) X dX8_person_96 (kc_84 C) rfl (show vP (sV σ) < 6 by omega) (by omega) ?_
            refine r_aload_n (pc := 97) X dX8_person_97 rfl ?_
            refine r_getr (pc := 98) X dX8_person_98 tf_8_38 rfl (kc_80 C) (rc_80_9 C) ?_
            refine r_aload_n (pc := 101) X dX8_person_101 rfl ?_
            refine r_getiW (pc := 102) X dX8_person_102 tf_8_7 rfl (kc_80 C) (show mU _ 84 _ 80 0 = nI (vP (sV σ)) by rw [mU_ne (by omega), mU_ne (by omega), mU_ne (by omega), mU_ne (by omega)]; exact Q.pp O) ?_
            refine r_iconst (pc := 105) (v := (nI 0)) X dX8_person_105 (by decide) ?_
            refine r_iastW (pc := 106) X dX8_person_106 (kc_85 C) rfl (show vP (sV σ) < 6 by omega) (by omega) ?_
            refine r_iconst (pc := 107) (v := (nI 0)) X dX8_person_107 (by decide) ?_
            refine r_istore (pc := 108) X dX8_person_108 (Nat.le_of_ble_eq_true rfl) ?_
            have S4 := (((Q.s.uf (f := 1) (k := vP (sV σ)) (x := k) (by omega)).uf (f := 2) (k := vP (sV σ)) (x := v) (by omega)).uf (f := 3) (k := vP (sV σ)) (x := e) (by omega)).uf (f := 4) (k := vP (sV σ)) (x := n) (by omega)
            have S5 := S4.uf (f := 5) (k := vP (sV σ)) (x := nI 0) (by omega)
            rw [vU_same (show vU (vU (vU (vU (sV σ) 1 (vP (sV σ)) k) 2 (vP (sV σ)) v) 3 (vP (sV σ)) e) 4 (vP (sV σ)) n 5 (vP (sV σ)) = nI 0 by rw [vU_ne (by omega), vU_ne (by omega), vU_ne (by omega), vU_ne (by omega)]; exact nz.1)] at S5
            refine lm_rows (d + 9) (M0 := M) C hP6 (by rw [vU_ne (by omega), vU_ne (by omega), vU_ne (by omega), vU_ne (by omega)]; exact O.w.1) (fun j hj => by rw [vU_ne (by omega), vU_ne (by omega), vU_ne (by omega), vU_ne (by omega)]; exact nz.2 j hj) X (fun M1 z S1 F1 => ?_) 4 0 _ (by omega) S5 (((((FS.uf (by omega)).tr (FS.uf (by omega))).tr (FS.uf (by omega))).tr (FS.uf (by omega))).tr (FS.uf (by omega)))
            have e0 : M1 80 0 = nI (vP (sV σ)) := S1.1.trans (by rw [vU_ne (by omega), vU_ne (by omega), vU_ne (by omega), vU_ne (by omega)]; exact O.w.1)
            have e2 : M1 80 2 = bkF (sV σ) := S1.2.2.1.trans (by unfold bkF; rw [vU_ne (by omega), vU_ne (by omega), vU_ne (by omega), vU_ne (by omega), vU_ne (by omega), vU_ne (by omega), vU_ne (by omega), vU_ne (by omega)])
            have key : ∀ b : Int32, b = sV σ 0 7 → MRep (setV σ (joinF (sV σ) k v e n).2) (mU (mU M1 80 (upd (M1 80) 2 b)) 80 (upd (mU M1 80 (upd (M1 80) 2 b) 80) 0 (nI (vP (sV σ)) + nI 1))) (h_l h) ∧ FM h M (h_l h) (mU (mU M1 80 (upd (M1 80) 2 b)) 80 (upd (mU M1 80 (upd (M1 80) 2 b) 80) 0 (nI (vP (sV σ)) + nI 1))) := fun b eb => by
              have S6 := S1.join (b := b) hP6 (by rw [vU_ne (by omega), vU_ne (by omega), vU_ne (by omega), vU_ne (by omega)]; exact eb)
              have F6 := F1.tr ((FS.u0 (j := 2) (x := b) (by omega)).tr (FS.u0 (j := 0) (x := nI (vP (sV σ)) + nI 1) (by omega)))
              rw [ej]
              exact ⟨Q.st S6 F6, FM.fa F6.fa⟩
            refine r_aload_n (pc := 137) X dX8_person_137 rfl ?_
            refine r_aload_n (pc := 138) X dX8_person_138 rfl ?_
            refine r_getiW (pc := 139) X dX8_person_139 tf_8_7 rfl (kc_80 C) e0 ?_
            refine r_if_ne (pc := 142) X dX8_person_142 (tgt := 149) (by decide) (fun c142 => ?_) (fun c142 => ?_)
            · refine r_aload_n (pc := 149) X dX8_person_149 rfl ?_
              refine r_getiW (pc := 150) X dX8_person_150 tf_8_16 rfl (kc_80 C) e2 ?_
              refine r_putiW (pc := 153) X dX8_person_153 tf_8_16 rfl (Or.inl rfl) (kc_80 C) ⟨rfl, rfl⟩ ?_
              refine r_aload_n (pc := 156) X dX8_person_156 rfl ?_
              refine r_dup (pc := 157) X dX8_person_157 rfl ?_
              refine r_getiW (pc := 158) X dX8_person_158 tf_8_7 rfl (kc_80 C) (show mU M1 80 _ 80 0 = nI (vP (sV σ)) from e0) ?_
              refine r_iconst (pc := 161) (v := (nI 1)) X dX8_person_161 (by decide) ?_
              refine r_iadd (pc := 162) X dX8_person_162 ?_
              refine r_putiW (pc := 163) X dX8_person_163 tf_8_7 rfl (Or.inl rfl) (kc_80 C) ⟨rfl, rfl⟩ ?_
              refine r_aload_n (pc := 166) X dX8_person_166 rfl ?_
              refine r_getiW (pc := 167) X dX8_person_167 tf_8_7 rfl (kc_80 C) (show mU _ 80 _ 80 0 = nI (vP (sV σ)) + nI 1 by rw [mU_eq]; exact pk_us) ?_
              refine r_iconst (pc := 170) (v := (nI 1)) X dX8_person_170 (by decide) ?_
              refine r_isub (pc := 171) X dX8_person_171 ?_
              refine r_iret (pc := 172) X dX8_person_172 rfl rfl ?_
              have eb : bkF (sV σ) = sV σ 0 7 := if_neg (by rw [O.w.1]; exact c142)
              have q9 := key _ eb
              rw [show nI (vP (sV σ)) + nI 1 - nI 1 = nI (vP (sV σ)) by rw [nI_add, nI_subn (by omega), Nat.add_sub_cancel]]
              refine ⟨QM.mk ?_ q9.1 q9.2, rfl⟩
              simp (decide := true) [f_person, c8, c21, c29, c38, ej]
            · refine r_iconst (pc := 145) (v := (nI 0)) X dX8_person_145 (by decide) ?_
              refine r_goto (pc := 146) X dX8_person_146 (tgt := 153) (by decide) ?_
              refine r_putiW (pc := 153) X dX8_person_153 tf_8_16 rfl (Or.inl rfl) (kc_80 C) ⟨rfl, rfl⟩ ?_
              refine r_aload_n (pc := 156) X dX8_person_156 rfl ?_
              refine r_dup (pc := 157) X dX8_person_157 rfl ?_
              refine r_getiW (pc := 158) X dX8_person_158 tf_8_7 rfl (kc_80 C) (show mU M1 80 _ 80 0 = nI (vP (sV σ)) from e0) ?_
              refine r_iconst (pc := 161) (v := (nI 1)) X dX8_person_161 (by decide) ?_
              refine r_iadd (pc := 162) X dX8_person_162 ?_
              refine r_putiW (pc := 163) X dX8_person_163 tf_8_7 rfl (Or.inl rfl) (kc_80 C) ⟨rfl, rfl⟩ ?_
              refine r_aload_n (pc := 166) X dX8_person_166 rfl ?_
              refine r_getiW (pc := 167) X dX8_person_167 tf_8_7 rfl (kc_80 C) (show mU _ 80 _ 80 0 = nI (vP (sV σ)) + nI 1 by rw [mU_eq]; exact pk_us) ?_
              refine r_iconst (pc := 170) (v := (nI 1)) X dX8_person_170 (by decide) ?_
              refine r_isub (pc := 171) X dX8_person_171 ?_
              refine r_iret (pc := 172) X dX8_person_172 rfl rfl ?_
              have eb : (nI 0 : Int32) = sV σ 0 7 := by
                have hP0 : vP (sV σ) = 0 := (nI_eq (by omega) (by omega)).mp c142
                rw [O.w.2.2.1.1, show vW (sV σ) = 0 by have := O.w.2.2.1.2; omega]
              have q9 := key _ eb
              rw [show nI (vP (sV σ)) + nI 1 - nI 1 = nI (vP (sV σ)) by rw [nI_add, nI_subn (by omega), Nat.add_sub_cancel]]
              refine ⟨QM.mk ?_ q9.1 q9.2, rfl⟩
              simp (decide := true) [f_person, c8, c21, c29, c38, ej]
          · refine r_bipush (pc := 53) (v := (-4)) X dX8_person_53 (by decide) ?_
            refine r_iret (pc := 55) X dX8_person_55 rfl rfl ?_
            have ej : joinF (sV σ) k v e n = (-4, sV σ) := by
              unfold joinF
              rw [O.w.1, c50]
              exact if_neg (by decide)
            refine ⟨QM.mk (σ1 := σ) ?_ Q FM.rf, rfl⟩
            simp (decide := true) [f_person, ej, c8, c21, c29, c38, c50]
        · refine r_bipush (pc := 41) (v := (-2)) X dX8_person_41 (by decide) ?_
          refine r_iret (pc := 43) X dX8_person_43 rfl rfl ?_
          refine ⟨QM.mk (σ1 := σ) ?_ Q FM.rf, rfl⟩
          simp (decide := true) [f_person, c8, c21, c29, c38]
  · refine r_iconst (pc := 11) (v := (-1)) X dX8_person_11 (by decide) ?_
    refine r_iret (pc := 12) X dX8_person_12 rfl rfl ?_
    refine ⟨QM.mk (σ1 := σ) ?_ Q FM.rf, rfl⟩
    simp (decide := true) [f_person, c8]
set_option maxRecDepth 10000 in
set_option maxHeartbeats 4000000 in
theorem n_of : ∀ (d : Nat) (p x : Int32) {σ : SG} {h : hp_T} {M : Mem} {B0 : Nat} (C : CS h) (Q : MRep σ M (h_l h)) (O : OK B0 σ), Ex (d + 9) nX8_of [.ref 80, .int p, .int x] (wi h M) 0 0 (QM (f_of σ p x) h M) := by
  intro d p x σ h M B0 C Q O
  refine Ex.of mm_X8_of (Nat.le_of_ble_eq_true rfl) fun w κ X hk hnm => ?_
  refine r_aload_n (pc := 0) X dX8_of_0 rfl ?_
  refine r_iload_n (pc := 1) X dX8_of_1 rfl ?_
  refine r_c0_1P (pc := 2) X rfl dX8_of_2 tc_8_247 mm_X8_isPerson (kc_80 C) rfl rfl (m_isPerson (d + 7) p C Q.s O.w) (Nat.le_of_ble_eq_true rfl) ?_
  refine r_if_neB (pc := 5) X dX8_of_5 (tgt := 12) (by decide) (fun c5 => ?_) (fun c5 => ?_)
  · obtain ⟨p, hp, hp6, rfl⟩ := has_nat O.w c5
    have cp := nI_clamp (show p < 2 ^ 31 by omega)
    have h6 := O.w.2.1
    refine r_iload_n (pc := 12) X dX8_of_12 rfl ?_
    refine sw_X8_of_13 X (fun z13 => ?_) (fun z13 => ?_) (fun z13 => ?_) (fun z13 => ?_) (fun z13 => ?_) (fun z13 => ?_) (fun z13 => ?_) (fun z13 => ?_) (fun z13 => ?_)
    · refine r_aload_n (pc := 60) X dX8_of_60 rfl ?_
      refine r_getr (pc := 61) X dX8_of_61 tf_8_25 rfl (kc_80 C) (rc_80_5 C) ?_
      refine r_iload_n (pc := 64) X dX8_of_64 rfl ?_
      refine r_ialdW (pc := 65) X dX8_of_65 (kc_81 C) rfl hp6 (by omega) (Q.s.a1 p) ?_
      refine r_iret (pc := 66) X dX8_of_66 rfl rfl ?_
      refine ⟨QM.mk (σ1 := σ) ?_ Q FM.rf, rfl⟩
      simp (decide := true) [f_of, cp, c5, z13]
    · refine r_aload_n (pc := 67) X dX8_of_67 rfl ?_
      refine r_getr (pc := 68) X dX8_of_68 tf_8_29 rfl (kc_80 C) (rc_80_6 C) ?_
      refine r_iload_n (pc := 71) X dX8_of_71 rfl ?_
      refine r_ialdW (pc := 72) X dX8_of_72 (kc_82 C) rfl hp6 (by omega) (Q.s.a2 p) ?_
      refine r_iret (pc := 73) X dX8_of_73 rfl rfl ?_
      refine ⟨QM.mk (σ1 := σ) ?_ Q FM.rf, rfl⟩
      simp (decide := true) [f_of, cp, c5, z13]
    · refine r_aload_n (pc := 74) X dX8_of_74 rfl ?_
      refine r_getr (pc := 75) X dX8_of_75 tf_8_32 rfl (kc_80 C) (rc_80_7 C) ?_
      refine r_iload_n (pc := 78) X dX8_of_78 rfl ?_
      refine r_ialdW (pc := 79) X dX8_of_79 (kc_83 C) rfl hp6 (by omega) (Q.s.a3 p) ?_
      refine r_iret (pc := 80) X dX8_of_80 rfl rfl ?_
      refine ⟨QM.mk (σ1 := σ) ?_ Q FM.rf, rfl⟩
      simp (decide := true) [f_of, cp, c5, z13]
    · refine r_aload_n (pc := 81) X dX8_of_81 rfl ?_
      refine r_getr (pc := 82) X dX8_of_82 tf_8_35 rfl (kc_80 C) (rc_80_8 C) ?_
      refine r_iload_n (pc := 85) X dX8_of_85 rfl ?_
      refine r_ialdW (pc := 86) X dX8_of_86 (kc_84 C) rfl hp6 (by omega) (Q.s.a4 p) ?_
      refine r_iret (pc := 87) X dX8_of_87 rfl rfl ?_
      refine ⟨QM.mk (σ1 := σ) ?_ Q FM.rf, rfl⟩
      simp (decide := true) [f_of, cp, c5, z13]
    · refine r_aload_n (pc := 88) X dX8_of_88 rfl ?_
      refine r_getr (pc := 89) X dX8_of_89 tf_8_38 rfl (kc_80 C) (rc_80_9 C) ?_
      refine r_iload_n (pc := 92) X dX8_of_92 rfl ?_
      refine r_ialdW (pc := 93) X dX8_of_93 (kc_85 C) rfl hp6 (by omega) (Q.s.a5 p) ?_
      refine r_iret (pc := 94) X dX8_of_94 rfl rfl ?_
      refine ⟨QM.mk (σ1 := σ) ?_ Q FM.rf, rfl⟩
      simp (decide := true) [f_of, cp, c5, z13]
    · refine r_aload_n (pc := 95) X dX8_of_95 rfl ?_
      refine r_iload_n (pc := 96) X dX8_of_96 rfl ?_
      refine r_c0_1P (pc := 97) X rfl dX8_of_97 tc_8_325 mm_X8_reach (kc_80 C) rfl rfl (m_reach (d + 6) C Q.s (Q.ev O) O.w hp6) (Nat.le_of_ble_eq_true rfl) ?_
      refine r_iret (pc := 100) X dX8_of_100 rfl rfl ?_
      refine ⟨QM.mk (σ1 := σ) ?_ Q FM.rf, rfl⟩
      simp (decide := true) [f_of, cp, c5, z13]
    · refine r_aload_n (pc := 101) X dX8_of_101 rfl ?_
      refine r_aload_n (pc := 102) X dX8_of_102 rfl ?_
      refine r_iload_n (pc := 103) X dX8_of_103 rfl ?_
      refine r_c0_1P (pc := 104) X rfl dX8_of_104 tc_8_337 mm_X8_toWhom (kc_80 C) rfl rfl (m_toWhom (d + 4) C Q.s (Q.ev O) O.w hp6) (Nat.le_of_ble_eq_true rfl) ?_
      refine r_c0_1P (pc := 107) X rfl dX8_of_107 tc_8_254 mm_X8_orNone (kc_80 C) rfl rfl (m_orNone (d + 8) _) (Nat.le_of_ble_eq_true rfl) ?_
      refine r_top (or_enc (fun q hq => by have := tg_lt hq; omega)) ?_
      refine r_iret (pc := 110) X dX8_of_110 rfl rfl ?_
      refine ⟨QM.mk (σ1 := σ) ?_ Q FM.rf, rfl⟩
      simp (decide := true) [f_of, cp, c5, z13]
    · refine r_aload_n (pc := 111) X dX8_of_111 rfl ?_
      refine r_iload_n (pc := 112) X dX8_of_112 rfl ?_
      refine r_c0_1IW (pc := 113) X rfl dX8_of_113 tc_8_340 mm_X8_rain (kc_80 C) rfl rfl (m_rain (d + 6) C Q.s (Q.ev O) hp6) (Nat.le_of_ble_eq_true rfl) (fun r113 M113 q113 => ?_)
      refine r_iret (pc := 116) X dX8_of_116 rfl rfl ?_
      obtain ⟨rfl, k9⟩ := q113
      have fs9 : FS M M113 := ⟨fun b h1 h2 => k9 b h2, fun j hj => by rw [k9 80 (by omega)]⟩
      have q9 := Q.st (Q.s.o96 k9) fs9
      refine ⟨QM.mk (σ1 := σ) ?_ q9 (FM.fa fs9.fa), rfl⟩
      simp (decide := true) [f_of, cp, c5, z13]
    · refine r_sipush (pc := 117) (v := (-1001)) X dX8_of_117 (by decide) ?_
      refine r_iret (pc := 120) X dX8_of_120 rfl rfl ?_
      refine ⟨QM.mk (σ1 := σ) ?_ Q FM.rf, rfl⟩
      simp (decide := true) [f_of, cp, c5, z13]
  · refine r_sipush (pc := 8) (v := (-1001)) X dX8_of_8 (by decide) ?_
    refine r_iret (pc := 11) X dX8_of_11 rfl rfl ?_
    refine ⟨QM.mk (σ1 := σ) ?_ Q FM.rf, rfl⟩
    simp (decide := true) [f_of, c5]
theorem MRep.sf {σ : SG} {h : hp_T} {M M1 : Mem} {V : VT} (q : MRep σ M (h_l h)) (s : MSt V M1) (f : FS M M1) : MRep (setV σ V) M1 (h_l h) ∧ FM h M (h_l h) M1 := ⟨q.st s f, FM.fa f.fa⟩
set_option maxRecDepth 10000 in
set_option maxHeartbeats 4000000 in
theorem n_set : ∀ (d : Nat) (p x n : Int32) {σ : SG} {h : hp_T} {M : Mem} {B0 : Nat} (C : CS h) (Q : MRep σ M (h_l h)) (O : OK B0 σ), Ex (d + 9) nX8_set [.ref 80, .int p, .int x, .int n] (wi h M) 0 0 (QM (f_set σ p x n) h M) := by
  intro d p x n σ h M B0 C Q O
  refine Ex.of mm_X8_set (Nat.le_of_ble_eq_true rfl) fun w κ X hk hnm => ?_
  refine r_aload_n (pc := 0) X dX8_set_0 rfl ?_
  refine r_iload_n (pc := 1) X dX8_set_1 rfl ?_
  refine r_c0_1P (pc := 2) X rfl dX8_set_2 tc_8_247 mm_X8_isPerson (kc_80 C) rfl rfl (m_isPerson (d + 7) p C Q.s O.w) (Nat.le_of_ble_eq_true rfl) ?_
  refine r_if_eqB (pc := 5) X dX8_set_5 (tgt := 18) (by decide) (fun c5 => ?_) (fun c5 => ?_)
  · refine r_iconst (pc := 18) (v := (-1)) X dX8_set_18 (by decide) ?_
    refine r_iret (pc := 19) X dX8_set_19 rfl rfl ?_
    refine ⟨QM.mk (σ1 := σ) ?_ Q FM.rf, rfl⟩
    simp (decide := true) [f_set, c5]
  · refine r_aload_n (pc := 8) X dX8_set_8 rfl ?_
    refine r_iload_n (pc := 9) X dX8_set_9 rfl ?_
    refine r_iconst (pc := 10) (v := (nI 0)) X dX8_set_10 (by decide) ?_
    refine r_iconst (pc := 11) (v := (nI 1)) X dX8_set_11 (by decide) ?_
    refine r_c0_3P (pc := 12) X rfl dX8_set_12 tc_8_236 mm_X8_in (kc_80 C) rfl rfl (m_in (d + 8) x (nI 0) (nI 1)) (Nat.le_of_ble_eq_true rfl) ?_
    refine r_if_neB (pc := 15) X dX8_set_15 (tgt := 20) (by decide) (fun c15 => ?_) (fun c15 => ?_)
    · obtain ⟨p, hp, hp6, rfl⟩ := has_nat O.w c5
      have cp := nI_clamp (show p < 2 ^ 31 by omega)
      refine r_iload_n (pc := 20) X dX8_set_20 rfl ?_
      refine r_if_ne (pc := 21) X dX8_set_21 (tgt := 35) (by decide) (fun c21 => ?_) (fun c21 => ?_)
      · refine r_aload_n (pc := 35) X dX8_set_35 rfl ?_
        refine r_iload_n (pc := 36) X dX8_set_36 rfl ?_
        refine r_c0_1P (pc := 37) X rfl dX8_set_37 tc_8_244 mm_X8_isHopes (kc_80 C) rfl rfl (m_isHopes (d + 7) n C) (Nat.le_of_ble_eq_true rfl) ?_
        refine r_if_neB (pc := 40) X dX8_set_40 (tgt := 46) (by decide) (fun c40 => ?_) (fun c40 => ?_)
        · refine r_iload_n (pc := 46) X dX8_set_46 rfl ?_
          refine r_if_ne (pc := 47) X dX8_set_47 (tgt := 59) (by decide) (fun c47 => ?_) (fun c47 => ?_)
          · refine r_aload_n (pc := 59) X dX8_set_59 rfl ?_
            refine r_getr (pc := 60) X dX8_set_60 tf_8_35 rfl (kc_80 C) (rc_80_8 C) ?_
            refine r_iload_n (pc := 63) X dX8_set_63 rfl ?_
            refine r_ialdW (pc := 64) X dX8_set_64 (kc_84 C) rfl hp6 (by omega) (Q.s.a4 p) ?_
            refine r_istore (pc := 65) X dX8_set_65 (Nat.le_of_ble_eq_true rfl) ?_
            refine r_iload_n (pc := 67) X dX8_set_67 rfl ?_
            refine r_if_ne (pc := 68) X dX8_set_68 (tgt := 81) (by decide) (fun c68 => ?_) (fun c68 => ?_)
            · refine r_aload_n (pc := 81) X dX8_set_81 rfl ?_
              refine r_getr (pc := 82) X dX8_set_82 tf_8_35 rfl (kc_80 C) (rc_80_8 C) ?_
              refine r_iload_n (pc := 85) X dX8_set_85 rfl ?_
              refine r_iload_n (pc := 86) X dX8_set_86 rfl ?_
              refine r_iastW (pc := 87) X dX8_set_87 (kc_84 C) rfl hp6 (by omega) ?_
              refine r_iload (pc := 88) X dX8_set_88 rfl ?_
              refine r_iret (pc := 90) X dX8_set_90 rfl rfl ?_
              have q9 := (Q.sf (Q.s.uf (f := 4) (k := p) (x := n) (by omega)) (FS.uf (by omega)))
              refine ⟨QM.mk ?_ q9.1 q9.2, rfl⟩
              simp (decide := true) [f_set, cp, c5, c15, c21, c40, c47, c68]
            · exact absurd c68 c21
          · exact absurd c47 c21
        · refine r_bipush (pc := 43) (v := (-2)) X dX8_set_43 (by decide) ?_
          refine r_iret (pc := 45) X dX8_set_45 rfl rfl ?_
          refine ⟨QM.mk (σ1 := σ) ?_ Q FM.rf, rfl⟩
          simp (decide := true) [f_set, c5, c15, c21, c40]
      · refine r_aload_n (pc := 24) X dX8_set_24 rfl ?_
        refine r_iload_n (pc := 25) X dX8_set_25 rfl ?_
        refine r_c0_1P (pc := 26) X rfl dX8_set_26 tc_8_240 mm_X8_isDoor (kc_80 C) rfl rfl (m_isDoor (d + 7) n C) (Nat.le_of_ble_eq_true rfl) ?_
        refine r_if_neB (pc := 29) X dX8_set_29 (tgt := 46) (by decide) (fun c29 => ?_) (fun c29 => ?_)
        · refine r_iload_n (pc := 46) X dX8_set_46 rfl ?_
          refine r_if_ne (pc := 47) X dX8_set_47 (tgt := 59) (by decide) (fun c47 => ?_) (fun c47 => ?_)
          · exact absurd c21 c47
          · refine r_aload_n (pc := 50) X dX8_set_50 rfl ?_
            refine r_getr (pc := 51) X dX8_set_51 tf_8_32 rfl (kc_80 C) (rc_80_7 C) ?_
            refine r_iload_n (pc := 54) X dX8_set_54 rfl ?_
            refine r_ialdW (pc := 55) X dX8_set_55 (kc_83 C) rfl hp6 (by omega) (Q.s.a3 p) ?_
            refine r_goto (pc := 56) X dX8_set_56 (tgt := 65) (by decide) ?_
            refine r_istore (pc := 65) X dX8_set_65 (Nat.le_of_ble_eq_true rfl) ?_
            refine r_iload_n (pc := 67) X dX8_set_67 rfl ?_
            refine r_if_ne (pc := 68) X dX8_set_68 (tgt := 81) (by decide) (fun c68 => ?_) (fun c68 => ?_)
            · exact absurd c21 c68
            · refine r_aload_n (pc := 71) X dX8_set_71 rfl ?_
              refine r_getr (pc := 72) X dX8_set_72 tf_8_32 rfl (kc_80 C) (rc_80_7 C) ?_
              refine r_iload_n (pc := 75) X dX8_set_75 rfl ?_
              refine r_iload_n (pc := 76) X dX8_set_76 rfl ?_
              refine r_iastW (pc := 77) X dX8_set_77 (kc_83 C) rfl hp6 (by omega) ?_
              refine r_goto (pc := 78) X dX8_set_78 (tgt := 88) (by decide) ?_
              refine r_iload (pc := 88) X dX8_set_88 rfl ?_
              refine r_iret (pc := 90) X dX8_set_90 rfl rfl ?_
              have q9 := (Q.sf (Q.s.uf (f := 3) (k := p) (x := n) (by omega)) (FS.uf (by omega)))
              refine ⟨QM.mk ?_ q9.1 q9.2, rfl⟩
              simp (decide := true) [f_set, cp, c5, c15, c21, c29, c47, c68]
        · refine r_goto (pc := 32) X dX8_set_32 (tgt := 43) (by decide) ?_
          refine r_bipush (pc := 43) (v := (-2)) X dX8_set_43 (by decide) ?_
          refine r_iret (pc := 45) X dX8_set_45 rfl rfl ?_
          refine ⟨QM.mk (σ1 := σ) ?_ Q FM.rf, rfl⟩
          simp (decide := true) [f_set, c5, c15, c21, c29]
    · refine r_iconst (pc := 18) (v := (-1)) X dX8_set_18 (by decide) ?_
      refine r_iret (pc := 19) X dX8_set_19 rfl rfl ?_
      refine ⟨QM.mk (σ1 := σ) ?_ Q FM.rf, rfl⟩
      simp (decide := true) [f_set, c5, c15]
set_option maxRecDepth 10000 in
set_option maxHeartbeats 4000000 in
theorem n_row : ∀ (d : Nat) (p x n : Int32) {σ : SG} {h : hp_T} {M : Mem} {B0 : Nat} (C : CS h) (Q : MRep σ M (h_l h)) (O : OK B0 σ), Ex (d + 9) nX8_row [.ref 80, .int p, .int x, .int n] (wi h M) 0 0 (QM (f_row σ p x n) h M) := by
  intro d p x n σ h M B0 C Q O
  refine Ex.of mm_X8_row (Nat.le_of_ble_eq_true rfl) fun w κ X hk hnm => ?_
  refine r_aload_n (pc := 0) X dX8_row_0 rfl ?_
  refine r_iload_n (pc := 1) X dX8_row_1 rfl ?_
  refine r_c0_1P (pc := 2) X rfl dX8_row_2 tc_8_247 mm_X8_isPerson (kc_80 C) rfl rfl (m_isPerson (d + 7) p C Q.s O.w) (Nat.le_of_ble_eq_true rfl) ?_
  refine r_if_eqB (pc := 5) X dX8_row_5 (tgt := 18) (by decide) (fun c5 => ?_) (fun c5 => ?_)
  · refine r_iconst (pc := 18) (v := (-1)) X dX8_row_18 (by decide) ?_
    refine r_iret (pc := 19) X dX8_row_19 rfl rfl ?_
    refine ⟨QM.mk (σ1 := σ) ?_ Q FM.rf, rfl⟩
    simp (decide := true) [f_row, c5]
  · refine r_aload_n (pc := 8) X dX8_row_8 rfl ?_
    refine r_iload_n (pc := 9) X dX8_row_9 rfl ?_
    refine r_iconst (pc := 10) (v := (nI 0)) X dX8_row_10 (by decide) ?_
    refine r_iconst (pc := 11) (v := (nI 3)) X dX8_row_11 (by decide) ?_
    refine r_c0_3P (pc := 12) X rfl dX8_row_12 tc_8_236 mm_X8_in (kc_80 C) rfl rfl (m_in (d + 8) x (nI 0) (nI 3)) (Nat.le_of_ble_eq_true rfl) ?_
    refine r_if_neB (pc := 15) X dX8_row_15 (tgt := 20) (by decide) (fun c15 => ?_) (fun c15 => ?_)
    · obtain ⟨p, hp, hp6, rfl⟩ := has_nat O.w c5
      have cp := nI_clamp (show p < 2 ^ 31 by omega)
      obtain ⟨t, -, ht, rfl⟩ := inF_lo c15 (by omega) (by omega)
      have ct := nI_clamp (show t < 2 ^ 31 by omega)
      refine r_aload_n (pc := 20) X dX8_row_20 rfl ?_
      refine r_iload_n (pc := 21) X dX8_row_21 rfl ?_
      refine r_iconst (pc := 22) (v := (nI 0)) X dX8_row_22 (by decide) ?_
      refine r_bipush (pc := 23) (v := (nI 9)) X dX8_row_23 (by decide) ?_
      refine r_c0_3P (pc := 25) X rfl dX8_row_25 tc_8_236 mm_X8_in (kc_80 C) rfl rfl (m_in (d + 8) n (nI 0) (nI 9)) (Nat.le_of_ble_eq_true rfl) ?_
      refine r_if_neB (pc := 28) X dX8_row_28 (tgt := 34) (by decide) (fun c28 => ?_) (fun c28 => ?_)
      · refine r_aload_n (pc := 34) X dX8_row_34 rfl ?_
        refine r_getr (pc := 35) X dX8_row_35 tf_8_25 rfl (kc_80 C) (rc_80_5 C) ?_
        refine r_iload_n (pc := 38) X dX8_row_38 rfl ?_
        refine r_ialdW (pc := 39) X dX8_row_39 (kc_81 C) rfl hp6 (by omega) (Q.s.a1 p) ?_
        refine r_bipush (pc := 40) (v := (nI 6)) X dX8_row_40 (by decide) ?_
        refine r_icmp_eq (pc := 42) X dX8_row_42 (tgt := 48) (by decide) (fun c42 => ?_) (fun c42 => ?_)
        · refine r_aload_n (pc := 48) X dX8_row_48 rfl ?_
          refine r_getr (pc := 49) X dX8_row_49 tf_8_41 rfl (kc_80 C) (rc_80_10 C) ?_
          refine r_iconst (pc := 52) (v := (nI 4)) X dX8_row_52 (by decide) ?_
          refine r_iload_n (pc := 53) X dX8_row_53 rfl ?_
          refine r_imul (pc := 54) X dX8_row_54 ?_
          refine r_iload_n (pc := 55) X dX8_row_55 rfl ?_
          refine r_iadd (pc := 56) X dX8_row_56 ?_
          refine r_top (y := nI (p * 4 + t)) (by rw [pk_mul, nI_add, Nat.mul_comm]) ?_
          refine r_ialdW (pc := 57) X dX8_row_57 (kc_86 C) rfl (show p * 4 + t < 24 by omega) (by omega) (Q.s.a6 _) ?_
          refine r_istore (pc := 58) X dX8_row_58 (Nat.le_of_ble_eq_true rfl) ?_
          refine r_aload_n (pc := 60) X dX8_row_60 rfl ?_
          refine r_getr (pc := 61) X dX8_row_61 tf_8_41 rfl (kc_80 C) (rc_80_10 C) ?_
          refine r_iconst (pc := 64) (v := (nI 4)) X dX8_row_64 (by decide) ?_
          refine r_iload_n (pc := 65) X dX8_row_65 rfl ?_
          refine r_imul (pc := 66) X dX8_row_66 ?_
          refine r_iload_n (pc := 67) X dX8_row_67 rfl ?_
          refine r_iadd (pc := 68) X dX8_row_68 ?_
          refine r_top (y := nI (p * 4 + t)) (by rw [pk_mul, nI_add, Nat.mul_comm]) ?_
          refine r_iload_n (pc := 69) X dX8_row_69 rfl ?_
          refine r_iastW (pc := 70) X dX8_row_70 (kc_86 C) rfl (show p * 4 + t < 24 by omega) (by omega) ?_
          refine r_iload (pc := 71) X dX8_row_71 rfl ?_
          refine r_iret (pc := 73) X dX8_row_73 rfl rfl ?_
          have q9 := (Q.sf (Q.s.uf (f := 6) (k := p * 4 + t) (x := n) (by omega)) (FS.uf (by omega)))
          refine ⟨QM.mk ?_ q9.1 q9.2, rfl⟩
          simp (decide := true) [f_row, cp, ct, c5, c15, c28, c42]
        · refine r_bipush (pc := 45) (v := (-3)) X dX8_row_45 (by decide) ?_
          refine r_iret (pc := 47) X dX8_row_47 rfl rfl ?_
          refine ⟨QM.mk (σ1 := σ) ?_ Q FM.rf, rfl⟩
          simp (decide := true) [f_row, cp, c5, c15, c28, c42]
      · refine r_bipush (pc := 31) (v := (-2)) X dX8_row_31 (by decide) ?_
        refine r_iret (pc := 33) X dX8_row_33 rfl rfl ?_
        refine ⟨QM.mk (σ1 := σ) ?_ Q FM.rf, rfl⟩
        simp (decide := true) [f_row, c5, c15, c28]
    · refine r_iconst (pc := 18) (v := (-1)) X dX8_row_18 (by decide) ?_
      refine r_iret (pc := 19) X dX8_row_19 rfl rfl ?_
      refine ⟨QM.mk (σ1 := σ) ?_ Q FM.rf, rfl⟩
      simp (decide := true) [f_row, c5, c15]
set_option maxRecDepth 10000 in
set_option maxHeartbeats 4000000 in
theorem n_with : ∀ (d : Nat) (p : Int32) {σ : SG} {h : hp_T} {M : Mem} {B0 : Nat} (C : CS h) (Q : MRep σ M (h_l h)) (O : OK B0 σ), Ex (d + 9) nX8_with [.ref 80, .int p] (wi h M) 0 0 (QM (f_with σ p) h M) := by
  intro d p σ h M B0 C Q O
  refine Ex.of mm_X8_with (Nat.le_of_ble_eq_true rfl) fun w κ X hk hnm => ?_
  refine r_aload_n (pc := 0) X dX8_with_0 rfl ?_
  refine r_iload_n (pc := 1) X dX8_with_1 rfl ?_
  refine r_c0_1P (pc := 2) X rfl dX8_with_2 tc_8_247 mm_X8_isPerson (kc_80 C) rfl rfl (m_isPerson (d + 7) p C Q.s O.w) (Nat.le_of_ble_eq_true rfl) ?_
  refine r_if_neB (pc := 5) X dX8_with_5 (tgt := 10) (by decide) (fun c5 => ?_) (fun c5 => ?_)
  · obtain ⟨p, hp, hp6, rfl⟩ := has_nat O.w c5
    have cp := nI_clamp (show p < 2 ^ 31 by omega)
    refine r_aload_n (pc := 10) X dX8_with_10 rfl ?_
    refine r_getiW (pc := 11) X dX8_with_11 tf_8_16 rfl (kc_80 C) Q.s.2.2.1 ?_
    refine r_istore_n (pc := 14) X dX8_with_14 (Nat.le_of_ble_eq_true rfl) ?_
    refine r_aload_n (pc := 15) X dX8_with_15 rfl ?_
    refine r_iload_n (pc := 16) X dX8_with_16 rfl ?_
    refine r_c0_1VW (pc := 17) X rfl dX8_with_17 tc_8_250 mm_X8_gives (kc_80 C) rfl rfl (m_gives (d + 8) C Q.s O.w hp) (Nat.le_of_ble_eq_true rfl) (fun M17 q17 => ?_)
    refine r_aload_n (pc := 20) X dX8_with_20 rfl ?_
    refine r_iload_n (pc := 21) X dX8_with_21 rfl ?_
    refine r_c0_1P (pc := 22) X rfl dX8_with_22 tc_8_254 mm_X8_orNone (kc_80 C) rfl rfl (m_orNone (d + 8) _) (Nat.le_of_ble_eq_true rfl) ?_
    refine r_top (or_bk O.w) ?_
    refine r_iret (pc := 25) X dX8_with_25 rfl rfl ?_
    have q9 := Q.sf q17.1 q17.2
    have h6 := O.w.2.1
    refine ⟨QM.mk ?_ q9.1 q9.2, rfl⟩
    rw [show holdF (sV σ) = sV σ 0 7 from if_neg (by rw [O.w.1]; exact nI_ne0 (by omega) (by omega))]
    simp (decide := true) [f_with, c5]
  · refine r_iconst (pc := 8) (v := (-1)) X dX8_with_8 (by decide) ?_
    refine r_iret (pc := 9) X dX8_with_9 rfl rfl ?_
    refine ⟨QM.mk (σ1 := σ) ?_ Q FM.rf, rfl⟩
    simp (decide := true) [f_with, c5]
set_option maxRecDepth 10000 in
set_option maxHeartbeats 4000000 in
theorem n_weight : ∀ (d : Nat) (n : Int32) {σ : SG} {h : hp_T} {M : Mem} {B0 : Nat} (C : CS h) (Q : MRep σ M (h_l h)) (O : OK B0 σ), Ex (d + 9) nX8_weight [.ref 80, .int n] (wi h M) 0 0 (QM (f_weight σ n) h M) := by
  intro d n σ h M B0 C Q O
  refine Ex.of mm_X8_weight (Nat.le_of_ble_eq_true rfl) fun w κ X hk hnm => ?_
  refine r_aload_n (pc := 0) X dX8_weight_0 rfl ?_
  refine r_iload_n (pc := 1) X dX8_weight_1 rfl ?_
  refine r_iconst (pc := 2) (v := (nI 0)) X dX8_weight_2 (by decide) ?_
  refine r_sipush (pc := 3) (v := (nI 999)) X dX8_weight_3 (by decide) ?_
  refine r_c0_3P (pc := 6) X rfl dX8_weight_6 tc_8_236 mm_X8_in (kc_80 C) rfl rfl (m_in (d + 8) n (nI 0) (nI 999)) (Nat.le_of_ble_eq_true rfl) ?_
  refine r_if_neB (pc := 9) X dX8_weight_9 (tgt := 15) (by decide) (fun c9 => ?_) (fun c9 => ?_)
  · refine r_aload_n (pc := 15) X dX8_weight_15 rfl ?_
    refine r_getiW (pc := 16) X dX8_weight_16 tf_8_19 rfl (kc_80 C) (show M 80 3 = _ from Q.s.2.2.2.1) ?_
    refine r_istore_n (pc := 19) X dX8_weight_19 (Nat.le_of_ble_eq_true rfl) ?_
    refine r_aload_n (pc := 20) X dX8_weight_20 rfl ?_
    refine r_iload_n (pc := 21) X dX8_weight_21 rfl ?_
    refine r_putiW (pc := 22) X dX8_weight_22 tf_8_19 rfl (Or.inl rfl) (kc_80 C) ⟨rfl, rfl⟩ ?_
    refine r_iload_n (pc := 25) X dX8_weight_25 rfl ?_
    refine r_iret (pc := 26) X dX8_weight_26 rfl rfl ?_
    have q9 := (Q.sf (Q.s.u8 (x := n)) (FS.u0 (by omega)))
    refine ⟨QM.mk ?_ q9.1 q9.2, rfl⟩
    simp (decide := true) [f_weight, c9]
  · refine r_bipush (pc := 12) (v := (-2)) X dX8_weight_12 (by decide) ?_
    refine r_iret (pc := 14) X dX8_weight_14 rfl rfl ?_
    refine ⟨QM.mk (σ1 := σ) ?_ Q FM.rf, rfl⟩
    simp (decide := true) [f_weight, c9]
set_option maxRecDepth 10000 in
set_option maxHeartbeats 4000000 in
theorem n_told : ∀ (d : Nat) (x : Int32) {σ : SG} {h : hp_T} {M : Mem} {B0 : Nat} (C : CS h) (Q : MRep σ M (h_l h)) (O : OK B0 σ), Ex (d + 9) nX8_told [.ref 80, .int x] (wi h M) 0 0 (QM (f_told σ x) h M) := by
  intro d x σ h M B0 C Q O
  obtain ⟨y, hy, hl, ey⟩ := (Q.ev O).far
  obtain ⟨y3, hy3, hl3, ey3⟩ := (Q.ev O).cost
  refine Ex.of mm_X8_told (Nat.le_of_ble_eq_true rfl) fun w κ X hk hnm => ?_
  refine r_iload_n (pc := 0) X dX8_told_0 rfl ?_
  refine sw_X8_told_1 X (fun z1 => ?_) (fun z1 => ?_) (fun z1 => ?_) (fun z1 => ?_) (fun z1 => ?_) (fun z1 => ?_) (fun z1 => ?_)
  · refine r_aload_n (pc := 40) X dX8_told_40 rfl ?_
    refine r_getiW (pc := 41) X dX8_told_41 tf_8_13 rfl (kc_80 C) Q.s.2.1 ?_
    refine r_iret (pc := 44) X dX8_told_44 rfl rfl ?_
    refine ⟨QM.mk (σ1 := σ) ?_ Q FM.rf, rfl⟩
    simp (decide := true) [f_told, z1]
  · refine r_aload_n (pc := 45) X dX8_told_45 rfl ?_
    refine r_aload_n (pc := 46) X dX8_told_46 rfl ?_
    refine r_getiW (pc := 47) X dX8_told_47 tf_8_16 rfl (kc_80 C) Q.s.2.2.1 ?_
    refine r_c0_1P (pc := 50) X rfl dX8_told_50 tc_8_254 mm_X8_orNone (kc_80 C) rfl rfl (m_orNone (d + 8) _) (Nat.le_of_ble_eq_true rfl) ?_
    refine r_top (or_bk O.w) ?_
    refine r_iret (pc := 53) X dX8_told_53 rfl rfl ?_
    refine ⟨QM.mk (σ1 := σ) ?_ Q FM.rf, rfl⟩
    simp (decide := true) [f_told, z1]
  · refine r_aload_n (pc := 54) X dX8_told_54 rfl ?_
    refine r_getiW (pc := 55) X dX8_told_55 tf_8_19 rfl (kc_80 C) (show M 80 3 = _ from Q.s.2.2.2.1) ?_
    refine r_iret (pc := 58) X dX8_told_58 rfl rfl ?_
    refine ⟨QM.mk (σ1 := σ) ?_ Q FM.rf, rfl⟩
    simp (decide := true) [f_told, z1]
  · refine r_aload_n (pc := 59) X dX8_told_59 rfl ?_
    refine r_aload_n (pc := 60) X dX8_told_60 rfl ?_
    refine r_getiW (pc := 61) X dX8_told_61 tf_8_22 rfl (kc_80 C) (show M 80 4 = _ from Q.s.2.2.2.2.1) ?_
    refine r_c0_1P (pc := 64) X rfl dX8_told_64 tc_8_254 mm_X8_orNone (kc_80 C) rfl rfl (m_orNone (d + 8) _) (Nat.le_of_ble_eq_true rfl) ?_
    refine r_top (or_en O.w) ?_
    refine r_iret (pc := 67) X dX8_told_67 rfl rfl ?_
    refine ⟨QM.mk (σ1 := σ) ?_ Q FM.rf, rfl⟩
    simp (decide := true) [f_told, z1]
  · refine r_aload_n (pc := 68) X dX8_told_68 rfl ?_
    refine r_iconst (pc := 69) (v := (nI 2)) X dX8_told_69 (by decide) ?_
    refine r_bipush (pc := 70) (v := (nI 12)) X dX8_told_70 (by decide) ?_
    refine r_c0_2P (pc := 72) X rfl dX8_told_72 tc_8_316 mm_X8_lastOf (kc_80 C) rfl rfl (m_lastOf (d + 7) C (Q.ev O) (by omega) hl) (Nat.le_of_ble_eq_true rfl) ?_
    rw [← ey]
    refine r_iret (pc := 75) X dX8_told_75 rfl rfl ?_
    refine ⟨QM.mk (σ1 := σ) ?_ Q FM.rf, rfl⟩
    simp (decide := true) [f_told, z1]
  · refine r_aload_n (pc := 76) X dX8_told_76 rfl ?_
    refine r_iconst (pc := 77) (v := (nI 3)) X dX8_told_77 (by decide) ?_
    refine r_iconst (pc := 78) (v := (nI 5)) X dX8_told_78 (by decide) ?_
    refine r_c0_2P (pc := 79) X rfl dX8_told_79 tc_8_316 mm_X8_lastOf (kc_80 C) rfl rfl (m_lastOf (d + 7) C (Q.ev O) (by omega) hl3) (Nat.le_of_ble_eq_true rfl) ?_
    rw [← ey3]
    refine r_iret (pc := 82) X dX8_told_82 rfl rfl ?_
    refine ⟨QM.mk (σ1 := σ) ?_ Q FM.rf, rfl⟩
    simp (decide := true) [f_told, z1]
  · refine r_iconst (pc := 83) (v := (-1)) X dX8_told_83 (by decide) ?_
    refine r_iret (pc := 84) X dX8_told_84 rfl rfl ?_
    refine ⟨QM.mk (σ1 := σ) ?_ Q FM.rf, rfl⟩
    simp (decide := true) [f_told, z1]
set_option maxRecDepth 10000 in
set_option maxHeartbeats 4000000 in
theorem n_step : ∀ (d : Nat) {σ : SG} {h : hp_T} {M : Mem} {B0 : Nat} (C : CS h) (Q : MRep σ M (h_l h)) (O : OK B0 σ) (hB : B0 ≤ 9000), Ex (d + 9) nX8_step [.ref 80] (wi h M) 0 0 (QM (f_step σ) h M) := by
  intro d σ h M B0 C Q O hB
  obtain ⟨n9, hn9, e9⟩ := O.w.2.2.2.2.1
  have hlt : sV σ 0 9 < nI 9999 := by rw [e9]; exact nI_lt (by omega) (by omega)
  refine Ex.of mm_X8_step (Nat.le_of_ble_eq_true rfl) fun w κ X hk hnm => ?_
  refine r_aload_n (pc := 0) X dX8_step_0 rfl ?_
  refine r_c0_0P (pc := 1) X rfl dX8_step_1 tc_8_346 mm_X8_canGo (kc_80 C) rfl rfl (m_canGo (d + 8) C Q.s O.w) (Nat.le_of_ble_eq_true rfl) ?_
  refine r_if_eqB (pc := 4) X dX8_step_4 (tgt := 17) (by decide) (fun c4 => ?_) (fun c4 => ?_)
  · refine r_bipush (pc := 17) (v := (-3)) X dX8_step_17 (by decide) ?_
    refine r_goto (pc := 19) X dX8_step_19 (tgt := 26) (by decide) ?_
    refine r_iret (pc := 26) X dX8_step_26 rfl rfl ?_
    have em := cg_stuck (E := EE σ) c4
    exact ⟨QM.mk (σ1 := σ) (by rw [f_step, if_pos hlt, em]) Q FM.rf, rfl⟩
  · refine r_aload_n (pc := 7) X dX8_step_7 rfl ?_
    refine r_getiW (pc := 8) X dX8_step_8 tf_8_13 rfl (kc_80 C) (show M 80 1 = _ from Q.s.2.1) ?_
    refine r_sipush (pc := 11) (v := (nI 9999)) X dX8_step_11 (by decide) ?_
    refine r_icmp_ne (pc := 14) X dX8_step_14 (tgt := 22) (by decide) (fun c14 => ?_) (fun c14 => ?_)
    · refine r_aload_n (pc := 22) X dX8_step_22 rfl ?_
      refine r_c0_0IW (pc := 23) X rfl dX8_step_23 tc_8_349 mm_X8_goStep (kc_80 C) rfl rfl (m_goStep (d + 3) C Q.s (Q.ev O) O.w c4 Q.1.2 (by omega) (by omega)) (Nat.le_of_ble_eq_true rfl) (fun r23 M23 q23 => ?_)
      refine r_iret (pc := 26) X dX8_step_26 rfl rfl ?_
      obtain ⟨rfl, s9, f9⟩ := q23
      have q9 := Q.sf s9 f9
      exact ⟨QM.mk (by rw [f_step, if_pos hlt]) q9.1 q9.2, rfl⟩
    · exact absurd ((nI_eq (by omega) (by omega)).mp (e9.symm.trans c14)) (by omega)
