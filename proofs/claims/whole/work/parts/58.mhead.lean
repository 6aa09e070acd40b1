/-! the reference reads a clause's head -/
def HdK (cc v : Nat) (M M1 : Mem) : Prop := (∀ b, b ≠ 80 → b ≠ 89 → M1 b = M b) ∧ (∀ j, j ≠ 14 → j ≠ 15 → M1 80 j = M 80 j) ∧ (∀ i, i ≠ cc → M1 89 i = M 89 i) ∧ M1 89 cc = nI v
theorem HdK.mk {cc v : Nat} {M M1 : Mem} (k : MtK (mU M 89 (upd (M 89) cc (nI v))) M1) : HdK cc v M M1 := by
  refine ⟨fun b a1 a2 => (k.1 b a1).trans (mU_ne a2), fun j a1 a2 => (k.2 j a1 a2).trans (by rw [mU_ne (by omega)]), fun i hi => ?_, ?_⟩
  · rw [k.1 89 (by omega), mU_eq, pk_un hi]
  · rw [k.1 89 (by omega), mU_eq, pk_us]
theorem MtS.u89 {T : TX} {p : Nat} {M : Mem} (S : MtS T p M) {f : Nat → Int32} : MtS T p (mU M 89 f) := S.kept (by rw [mU_ne (by omega)]) (by rw [mU_ne (by omega)]) (mU_ne (by omega))
theorem ew1 : (lN14.drop 0).take 4 ++ [32] = wN 1 := by decide
theorem ew2 : (lN14.drop 4).take 3 ++ [32] = wN 2 := by decide
theorem ew3 : (lN14.drop 7).take 3 ++ [32] = wN 3 := by decide
theorem ew4 : (lN14.drop 10).take 4 ++ [32] = wN 4 := by decide
theorem wI_d : wordI (nI 100) = 2 := by decide
theorem wI_o {a : Int32} (h : ¬ a = nI 100 ∧ ¬ a = nI 102 ∧ ¬ a = nI 114) : wordI a = 4 := by
  unfold wordI
  rw [if_neg h.2.2, if_neg h.1, if_neg h.2.1]
set_option maxRecDepth 10000 in
set_option maxHeartbeats 4000000 in
theorem m_head : ∀ (d : Nat) {h : hp_T} {M : Mem} {T : TX} {p cc : Nat} (C : CS h) (S : MtS T p M) (hL : ∀ j, j < 14 → M 95 j = letL.getD j 0) (hcc : cc < 60), Ei (d + 3) nX8_takesHead [.ref 80, .int (nI cc)] (wi h M) (fun r M1 => r = b2 (wordF T (wN (wordI (aheadI T p))) p []).1 ∧ MtS T (wordF T (wN (wordI (aheadI T p))) p []).2.1 M1 ∧ HdK cc (wordI (aheadI T p) - 1) M M1) := by
  intro d h M T p cc C S hL hcc
  refine Ex.of mm_X8_takesHead (Nat.le_of_ble_eq_true rfl) fun w κ X hk hnm => ?_
  refine r_aload_n (pc := 0) X dX8_takesHead_0 rfl ?_
  refine r_c0_0P (pc := 1) X rfl dX8_takesHead_1 tc_8_258 mm_X8_next (kc_80 C) rfl rfl (m_next (d + 2) C S) (Nat.le_of_ble_eq_true rfl) ?_
  refine sw_X8_takesHead_4 X (fun z4 => ?_) (fun z4 => ?_) (fun z4 => ?_) (fun z4 => ?_)
  · refine r_aload_n (pc := 54) X dX8_takesHead_54 rfl ?_
    refine r_getr (pc := 55) X dX8_takesHead_55 tf_8_65 rfl (kc_80 C) (rc_80_18 C) ?_
    refine r_iload_n (pc := 58) X dX8_takesHead_58 rfl ?_
    refine r_iconst (pc := 59) (v := (nI 1)) X dX8_takesHead_59 (by decide) ?_
    refine r_iastW (pc := 60) X dX8_takesHead_60 (kc_89 C) rfl (show cc < 60 by omega) (by omega) ?_
    refine r_aload_n (pc := 61) X dX8_takesHead_61 rfl ?_
    refine r_iconst (pc := 62) (v := (nI 4)) X dX8_takesHead_62 (by decide) ?_
    refine r_iconst (pc := 63) (v := (nI 3)) X dX8_takesHead_63 (by decide) ?_
    refine r_c0_2IW (pc := 64) X rfl dX8_takesHead_64 tc_8_287 mm_X8_takesWord (kc_80 C) rfl rfl (m_word d C S.u89 (fun j hj => by rw [mU_ne (by omega)]; exact hL j hj) (by decide) (by decide)) (Nat.le_of_ble_eq_true rfl) (fun r64 M64 q64 => ?_)
    obtain ⟨qa, qm, qk⟩ := q64
    rw [ew2] at qa qm
    subst qa
    refine r_iret (pc := 67) X dX8_takesHead_67 rfl (b2_nar _) ?_
    have e1 : wordI (aheadI T p) = 2 := by rw [z4]; exact wI_d
    rw [e1]
    exact ⟨⟨_, M64, rfl, rfl, rfl, qm, HdK.mk qk⟩, rfl⟩
  · refine r_aload_n (pc := 68) X dX8_takesHead_68 rfl ?_
    refine r_getr (pc := 69) X dX8_takesHead_69 tf_8_65 rfl (kc_80 C) (rc_80_18 C) ?_
    refine r_iload_n (pc := 72) X dX8_takesHead_72 rfl ?_
    refine r_iconst (pc := 73) (v := (nI 2)) X dX8_takesHead_73 (by decide) ?_
    refine r_iastW (pc := 74) X dX8_takesHead_74 (kc_89 C) rfl (show cc < 60 by omega) (by omega) ?_
    refine r_aload_n (pc := 75) X dX8_takesHead_75 rfl ?_
    refine r_bipush (pc := 76) (v := (nI 7)) X dX8_takesHead_76 (by decide) ?_
    refine r_iconst (pc := 78) (v := (nI 3)) X dX8_takesHead_78 (by decide) ?_
    refine r_c0_2IW (pc := 79) X rfl dX8_takesHead_79 tc_8_287 mm_X8_takesWord (kc_80 C) rfl rfl (m_word d C S.u89 (fun j hj => by rw [mU_ne (by omega)]; exact hL j hj) (by decide) (by decide)) (Nat.le_of_ble_eq_true rfl) (fun r79 M79 q79 => ?_)
    obtain ⟨qa, qm, qk⟩ := q79
    rw [ew3] at qa qm
    subst qa
    refine r_iret (pc := 82) X dX8_takesHead_82 rfl (b2_nar _) ?_
    have e1 : wordI (aheadI T p) = 3 := by rw [z4]; exact wordI_f
    rw [e1]
    exact ⟨⟨_, M79, rfl, rfl, rfl, qm, HdK.mk qk⟩, rfl⟩
  · refine r_aload_n (pc := 40) X dX8_takesHead_40 rfl ?_
    refine r_getr (pc := 41) X dX8_takesHead_41 tf_8_65 rfl (kc_80 C) (rc_80_18 C) ?_
    refine r_iload_n (pc := 44) X dX8_takesHead_44 rfl ?_
    refine r_iconst (pc := 45) (v := (nI 0)) X dX8_takesHead_45 (by decide) ?_
    refine r_iastW (pc := 46) X dX8_takesHead_46 (kc_89 C) rfl (show cc < 60 by omega) (by omega) ?_
    refine r_aload_n (pc := 47) X dX8_takesHead_47 rfl ?_
    refine r_iconst (pc := 48) (v := (nI 0)) X dX8_takesHead_48 (by decide) ?_
    refine r_iconst (pc := 49) (v := (nI 4)) X dX8_takesHead_49 (by decide) ?_
    refine r_c0_2IW (pc := 50) X rfl dX8_takesHead_50 tc_8_287 mm_X8_takesWord (kc_80 C) rfl rfl (m_word d C S.u89 (fun j hj => by rw [mU_ne (by omega)]; exact hL j hj) (by decide) (by decide)) (Nat.le_of_ble_eq_true rfl) (fun r50 M50 q50 => ?_)
    obtain ⟨qa, qm, qk⟩ := q50
    rw [ew1] at qa qm
    subst qa
    refine r_iret (pc := 53) X dX8_takesHead_53 rfl (b2_nar _) ?_
    have e1 : wordI (aheadI T p) = 1 := by rw [z4]; exact wordI_r
    rw [e1]
    exact ⟨⟨_, M50, rfl, rfl, rfl, qm, HdK.mk qk⟩, rfl⟩
  · refine r_aload_n (pc := 83) X dX8_takesHead_83 rfl ?_
    refine r_getr (pc := 84) X dX8_takesHead_84 tf_8_65 rfl (kc_80 C) (rc_80_18 C) ?_
    refine r_iload_n (pc := 87) X dX8_takesHead_87 rfl ?_
    refine r_iconst (pc := 88) (v := (nI 3)) X dX8_takesHead_88 (by decide) ?_
    refine r_iastW (pc := 89) X dX8_takesHead_89 (kc_89 C) rfl (show cc < 60 by omega) (by omega) ?_
    refine r_aload_n (pc := 90) X dX8_takesHead_90 rfl ?_
    refine r_bipush (pc := 91) (v := (nI 10)) X dX8_takesHead_91 (by decide) ?_
    refine r_iconst (pc := 93) (v := (nI 4)) X dX8_takesHead_93 (by decide) ?_
    refine r_c0_2IW (pc := 94) X rfl dX8_takesHead_94 tc_8_287 mm_X8_takesWord (kc_80 C) rfl rfl (m_word d C S.u89 (fun j hj => by rw [mU_ne (by omega)]; exact hL j hj) (by decide) (by decide)) (Nat.le_of_ble_eq_true rfl) (fun r94 M94 q94 => ?_)
    obtain ⟨qa, qm, qk⟩ := q94
    rw [ew4] at qa qm
    subst qa
    refine r_iret (pc := 97) X dX8_takesHead_97 rfl (b2_nar _) ?_
    have e1 : wordI (aheadI T p) = 4 := wI_o z4
    rw [e1]
    exact ⟨⟨_, M94, rfl, rfl, rfl, qm, HdK.mk qk⟩, rfl⟩
