/-! the reference's expressions, step by step -/
theorem opn_le : ∀ W : List Nat, opn W ≤ W.length := by
  intro W
  induction W with
  | nil => exact Nat.le_refl _
  | cons c r ih =>
    unfold opn
    rw [List.length_cons]
    by_cases e : c = 33 ∨ c = 40
    · rw [if_pos e]; omega
    · rw [if_neg e]; omega
theorem PSt.push {T : TX} {G : GP} {p : Nat} {cs W : List Nat} {M M1 : Mem} (S : PSt T G p cs W M) {c : Nat} (h94 : M1 94 = upd (M 94) W.length (nI c)) (hb : ∀ b, b ≠ 80 → b ≠ 94 → M1 b = M b) (h80 : ∀ j, j ≠ 14 → j ≠ 25 → j ≠ 26 → M1 80 j = M 80 j) (h14 : M1 80 14 = nI (p + 1)) (h25 : M1 80 25 = nI (W.length + 1)) (h26 : M1 80 26 = nI (opn (c :: W))) (c7 : c < 128) (hp : p < T.1) : PSt T G (p + 1) cs (c :: W) M1 := by
  have k := S.k
  have n1 := S.n
  refine ⟨⟨⟨(h80 13 (by omega) (by omega) (by omega)).trans S.m.fe, S.m.n100, fun i hi => by rw [hb 87 (by omega) (by omega)]; exact S.m.1.2.2 i hi⟩, h14, hp⟩, ⟨(h80 24 (by omega) (by omega) (by omega)).trans S.ss, h25, h26⟩, ⟨?_, S.2.2.1.2⟩, fun i hi => by rw [hb 93 (by omega) (by omega)]; exact S.2.2.2.1 i hi, ⟨⟨by rw [h94, pk_us], c7⟩, S.w.kept (fun i hi => by rw [h94, pk_un (by omega)])⟩,
    ⟨fun b a1 a2 a3 a4 => (hb b a1 a4).trans (k.1 b a1 a2 a3 a4), fun j a1 a2 a3 a4 a5 => (h80 j a1 a4 a5).trans (k.2.1 j a1 a2 a3 a4 a5), fun i hi => by rw [hb 93 (by omega) (by omega)]; exact k.2.2.1 i hi, fun i hi => by rw [hb 92 (by omega) (by omega)]; exact k.2.2.2 i hi⟩⟩
  show cs.length + (W.length + 1) + G.2.1 ≤ p + 1
  omega
set_option maxRecDepth 10000 in
set_option maxHeartbeats 4000000 in
theorem l_mpush : ∀ (d : Nat) {h : hp_T} {M : Mem} {T : TX} {G : GP} {p : Nat} {cs W : List Nat} (C : CS h) (S : PSt T G p cs W M) {c : Nat} (hc : c = 33 ∨ c = 40) (ec : aheadN T p = c) {z : Option Value} {w : wc_T} {κ : cx_T} {Φ : Option Value → hp_T → Prop} (X : CX w κ (d + 4) 8 cX8_takesE 4 (some .boolean) Φ) (h4 : ¬ opn W = 4 → ∀ M1 z1, PSt T G (p + 1) cs (c :: W) M1 → GG w κ 22 [some (.ref 80), some (.int (nI G.2.2.1)), some (.int (nI 1)), z1] [] (wi h M1)) (h5 : opn W = 4 → Φ (some (.int (nI 0))) (wi h M)), GG w κ 22 [some (.ref 80), some (.int (nI G.2.2.1)), some (.int (nI 1)), z] [] (wi h M) := by
  intro d h M T G p cs W C S c hc ec z w κ Φ X h4 h5
  have n1 := S.n
  have n2 := opn_le W
  have ei : aheadI T p = nI c := (S.m.ah (by omega)).mpr ec
  have hp : p < T.1 := aheadN_lt ec (by omega)
  refine r_aload_n (pc := 22) X dX8_takesE_22 rfl ?_
  refine r_c0_0P (pc := 23) X rfl dX8_takesE_23 tc_8_258 mm_X8_next (kc_80 C) rfl rfl (m_next (d + 3) C S.m) (Nat.le_of_ble_eq_true rfl) ?_
  rw [ei]
  refine r_istore_n (pc := 26) X dX8_takesE_26 (Nat.le_of_ble_eq_true rfl) ?_
  refine r_iload_n (pc := 27) X dX8_takesE_27 rfl ?_
  refine r_if_eq (pc := 28) X dX8_takesE_28 (tgt := 110) (by decide) (fun c28 => ?_) (fun c28 => ?_)
  · exact absurd c28 (by decide)
  · refine r_iload_n (pc := 31) X dX8_takesE_31 rfl ?_
    refine r_bipush (pc := 32) (v := (nI 33)) X dX8_takesE_32 (by decide) ?_
    refine r_icmp_eqN (pc := 34) X dX8_takesE_34 (tgt := 43) (by decide) (by omega) (by omega) (fun c34 => ?_) (fun c34 => ?_)
    · refine r_aload_n (pc := 43) X dX8_takesE_43 rfl ?_
      refine r_getiW (pc := 44) X dX8_takesE_44 tf_8_89 rfl (kc_80 C) S.op ?_
      refine r_iconst (pc := 47) (v := (nI 4)) X dX8_takesE_47 (by decide) ?_
      refine r_icmp_neN (pc := 48) X dX8_takesE_48 (tgt := 53) (by decide) (by omega) (by omega) (fun c48 => ?_) (fun c48 => ?_)
      · refine r_aload_n (pc := 53) X dX8_takesE_53 rfl ?_
        refine r_dup (pc := 54) X dX8_takesE_54 rfl ?_
        refine r_getiW (pc := 55) X dX8_takesE_55 tf_8_89 rfl (kc_80 C) S.op ?_
        refine r_iconst (pc := 58) (v := (nI 1)) X dX8_takesE_58 (by decide) ?_
        refine r_iadd (pc := 59) X dX8_takesE_59 ?_
        refine r_putiW (pc := 60) X dX8_takesE_60 tf_8_89 rfl (Or.inl rfl) (kc_80 C) ⟨rfl, rfl⟩ ?_
        refine r_aload_n (pc := 63) X dX8_takesE_63 rfl ?_
        refine r_getr (pc := 64) X dX8_takesE_64 tf_8_80 rfl (kc_80 C) (rc_80_23 C) ?_
        refine r_aload_n (pc := 67) X dX8_takesE_67 rfl ?_
        refine r_getiW (pc := 68) X dX8_takesE_68 tf_8_86 rfl (kc_80 C) S.wl ?_
        refine r_iload_n (pc := 71) X dX8_takesE_71 rfl ?_
        refine r_iastW (pc := 72) X dX8_takesE_72 (kc_94 C) rfl (show W.length < 101 by omega) (by omega) ?_
        refine r_aload_n (pc := 73) X dX8_takesE_73 rfl ?_
        refine r_dup (pc := 74) X dX8_takesE_74 rfl ?_
        refine r_getiW (pc := 75) X dX8_takesE_75 tf_8_86 rfl (kc_80 C) S.wl ?_
        refine r_iconst (pc := 78) (v := (nI 1)) X dX8_takesE_78 (by decide) ?_
        refine r_iadd (pc := 79) X dX8_takesE_79 ?_
        refine r_putiW (pc := 80) X dX8_takesE_80 tf_8_86 rfl (Or.inl rfl) (kc_80 C) ⟨rfl, rfl⟩ ?_
        refine r_aload_n (pc := 83) X dX8_takesE_83 rfl ?_
        refine r_dup (pc := 84) X dX8_takesE_84 rfl ?_
        refine r_getiW (pc := 85) X dX8_takesE_85 tf_8_53 rfl (kc_80 C) S.m.pl ?_
        refine r_iconst (pc := 88) (v := (nI 1)) X dX8_takesE_88 (by decide) ?_
        refine r_iadd (pc := 89) X dX8_takesE_89 ?_
        refine r_putiW (pc := 90) X dX8_takesE_90 tf_8_53 rfl (Or.inl rfl) (kc_80 C) ⟨rfl, rfl⟩ ?_
        refine r_goto (pc := 93) X dX8_takesE_93 (tgt := 22) (by decide) ?_
        refine h4 c48 _ _ (S.push (c := c) ?_ ?_ ?_ ?_ ?_ ?_ (by omega) hp)
        · rw [mU_ne (by omega), mU_ne (by omega), mU_eq, mU_ne (by omega)]
        · intro b a1 a2; rw [mU_ne a1, mU_ne a1, mU_ne a2, mU_ne a1]
        · intro j a1 a2 a3; rw [mU_eq, pk_un a1, mU_eq, pk_un a2, mU_ne (by omega), mU_eq, pk_un a3]
        · rw [mU_eq, pk_us]; exact nI_add _ _
        · rw [mU_eq, pk_un (by omega), mU_eq, pk_us]; exact nI_add _ _
        · rw [mU_eq, pk_un (by omega), mU_eq, pk_un (by omega), mU_ne (by omega), mU_eq, pk_us]; exact (nI_add _ _).trans (congrArg nI (show opn W + 1 = opn (c :: W) from (if_pos hc).symm))
      · refine r_iconst (pc := 51) (v := (nI 0)) X dX8_takesE_51 (by decide) ?_
        refine r_iret (pc := 52) X dX8_takesE_52 rfl rfl ?_
        exact h5 c48
    · refine r_iload_n (pc := 37) X dX8_takesE_37 rfl ?_
      refine r_bipush (pc := 38) (v := (nI 40)) X dX8_takesE_38 (by decide) ?_
      refine r_icmp_neN (pc := 40) X dX8_takesE_40 (tgt := 96) (by decide) (by omega) (by omega) (fun c40 => ?_) (fun c40 => ?_)
      · exact absurd hc (by omega)
      · refine r_aload_n (pc := 43) X dX8_takesE_43 rfl ?_
        refine r_getiW (pc := 44) X dX8_takesE_44 tf_8_89 rfl (kc_80 C) S.op ?_
        refine r_iconst (pc := 47) (v := (nI 4)) X dX8_takesE_47 (by decide) ?_
        refine r_icmp_neN (pc := 48) X dX8_takesE_48 (tgt := 53) (by decide) (by omega) (by omega) (fun c48 => ?_) (fun c48 => ?_)
        · refine r_aload_n (pc := 53) X dX8_takesE_53 rfl ?_
          refine r_dup (pc := 54) X dX8_takesE_54 rfl ?_
          refine r_getiW (pc := 55) X dX8_takesE_55 tf_8_89 rfl (kc_80 C) S.op ?_
          refine r_iconst (pc := 58) (v := (nI 1)) X dX8_takesE_58 (by decide) ?_
          refine r_iadd (pc := 59) X dX8_takesE_59 ?_
          refine r_putiW (pc := 60) X dX8_takesE_60 tf_8_89 rfl (Or.inl rfl) (kc_80 C) ⟨rfl, rfl⟩ ?_
          refine r_aload_n (pc := 63) X dX8_takesE_63 rfl ?_
          refine r_getr (pc := 64) X dX8_takesE_64 tf_8_80 rfl (kc_80 C) (rc_80_23 C) ?_
          refine r_aload_n (pc := 67) X dX8_takesE_67 rfl ?_
          refine r_getiW (pc := 68) X dX8_takesE_68 tf_8_86 rfl (kc_80 C) S.wl ?_
          refine r_iload_n (pc := 71) X dX8_takesE_71 rfl ?_
          refine r_iastW (pc := 72) X dX8_takesE_72 (kc_94 C) rfl (show W.length < 101 by omega) (by omega) ?_
          refine r_aload_n (pc := 73) X dX8_takesE_73 rfl ?_
          refine r_dup (pc := 74) X dX8_takesE_74 rfl ?_
          refine r_getiW (pc := 75) X dX8_takesE_75 tf_8_86 rfl (kc_80 C) S.wl ?_
          refine r_iconst (pc := 78) (v := (nI 1)) X dX8_takesE_78 (by decide) ?_
          refine r_iadd (pc := 79) X dX8_takesE_79 ?_
          refine r_putiW (pc := 80) X dX8_takesE_80 tf_8_86 rfl (Or.inl rfl) (kc_80 C) ⟨rfl, rfl⟩ ?_
          refine r_aload_n (pc := 83) X dX8_takesE_83 rfl ?_
          refine r_dup (pc := 84) X dX8_takesE_84 rfl ?_
          refine r_getiW (pc := 85) X dX8_takesE_85 tf_8_53 rfl (kc_80 C) S.m.pl ?_
          refine r_iconst (pc := 88) (v := (nI 1)) X dX8_takesE_88 (by decide) ?_
          refine r_iadd (pc := 89) X dX8_takesE_89 ?_
          refine r_putiW (pc := 90) X dX8_takesE_90 tf_8_53 rfl (Or.inl rfl) (kc_80 C) ⟨rfl, rfl⟩ ?_
          refine r_goto (pc := 93) X dX8_takesE_93 (tgt := 22) (by decide) ?_
          refine h4 c48 _ _ (S.push (c := c) ?_ ?_ ?_ ?_ ?_ ?_ (by omega) hp)
          · rw [mU_ne (by omega), mU_ne (by omega), mU_eq, mU_ne (by omega)]
          · intro b a1 a2; rw [mU_ne a1, mU_ne a1, mU_ne a2, mU_ne a1]
          · intro j a1 a2 a3; rw [mU_eq, pk_un a1, mU_eq, pk_un a2, mU_ne (by omega), mU_eq, pk_un a3]
          · rw [mU_eq, pk_us]; exact nI_add _ _
          · rw [mU_eq, pk_un (by omega), mU_eq, pk_us]; exact nI_add _ _
          · rw [mU_eq, pk_un (by omega), mU_eq, pk_un (by omega), mU_ne (by omega), mU_eq, pk_us]; exact (nI_add _ _).trans (congrArg nI (show opn W + 1 = opn (c :: W) from (if_pos hc).symm))
        · refine r_iconst (pc := 51) (v := (nI 0)) X dX8_takesE_51 (by decide) ?_
          refine r_iret (pc := 52) X dX8_takesE_52 rfl rfl ?_
          exact h5 c48
set_option maxRecDepth 10000 in
set_option maxHeartbeats 4000000 in
theorem l_mtst : ∀ (d : Nat) {h : hp_T} {M : Mem} {T : TX} {G : GP} {p : Nat} {cs W : List Nat} (C : CS h) (S : PSt T G p cs W M) (h1 : ¬ aheadN T p = 33) (h2 : ¬ aheadN T p = 40) {z : Option Value} {w : wc_T} {κ : cx_T} {Φ : Option Value → hp_T → Prop} (X : CX w κ (d + 4) 8 cX8_takesE 4 (some .boolean) Φ) (hT : (testF T p cs).1 = true → ∀ M1 z1, PSt T G (testF T p cs).2.1 (stC W (testF T p cs).2.2) (stW W) M1 → GG w κ 22 [some (.ref 80), some (.int (nI G.2.2.1)), some (.int (nI 0)), z1] [] (wi h M1)) (hF : (testF T p cs).1 = false → ∀ M1, MtS T (testF T p cs).2.1 M1 → PK G M1 → Φ (some (.int (nI 0))) (wi h M1)), GG w κ 22 [some (.ref 80), some (.int (nI G.2.2.1)), some (.int (nI 1)), z] [] (wi h M) := by
  intro d h M T G p cs W C S h1 h2 z w κ Φ X hT hF
  refine r_aload_n (pc := 22) X dX8_takesE_22 rfl ?_
  refine r_c0_0P (pc := 23) X rfl dX8_takesE_23 tc_8_258 mm_X8_next (kc_80 C) rfl rfl (m_next (d + 3) C S.m) (Nat.le_of_ble_eq_true rfl) ?_
  refine r_istore_n (pc := 26) X dX8_takesE_26 (Nat.le_of_ble_eq_true rfl) ?_
  refine r_iload_n (pc := 27) X dX8_takesE_27 rfl ?_
  refine r_if_eq (pc := 28) X dX8_takesE_28 (tgt := 110) (by decide) (fun c28 => ?_) (fun c28 => ?_)
  · exact absurd c28 (by decide)
  · refine r_iload_n (pc := 31) X dX8_takesE_31 rfl ?_
    refine r_bipush (pc := 32) (v := (nI 33)) X dX8_takesE_32 (by decide) ?_
    refine r_icmp_eq (pc := 34) X dX8_takesE_34 (tgt := 43) (by decide) (fun c34 => ?_) (fun c34 => ?_)
    · exact absurd ((S.m.ah (by omega)).mp c34) h1
    · refine r_iload_n (pc := 37) X dX8_takesE_37 rfl ?_
      refine r_bipush (pc := 38) (v := (nI 40)) X dX8_takesE_38 (by decide) ?_
      refine r_icmp_ne (pc := 40) X dX8_takesE_40 (tgt := 96) (by decide) (fun c40 => ?_) (fun c40 => ?_)
      · refine r_aload_n (pc := 96) X dX8_takesE_96 rfl ?_
        refine r_c0_0IW (pc := 97) X rfl dX8_takesE_97 tc_8_281 mm_X8_takesTest (kc_80 C) rfl rfl (m_test d C S) (Nat.le_of_ble_eq_true rfl) (fun r97 M97 q97 => ?_)
        obtain ⟨qa, qb, qc⟩ := q97
        subst qa
        refine r_if_eqB (pc := 100) X dX8_takesE_100 (tgt := 108) (by decide) (fun c100 => ?_) (fun c100 => ?_)
        · refine r_iconst (pc := 108) (v := (nI 0)) X dX8_takesE_108 (by decide) ?_
          refine r_iret (pc := 109) X dX8_takesE_109 rfl rfl ?_
          exact hF c100 _ (qc c100).1 (qc c100).2
        · refine r_iconst (pc := 103) (v := (nI 0)) X dX8_takesE_103 (by decide) ?_
          refine r_istore_n (pc := 104) X dX8_takesE_104 (Nat.le_of_ble_eq_true rfl) ?_
          refine r_goto (pc := 105) X dX8_takesE_105 (tgt := 22) (by decide) ?_
          exact hT c100 _ _ (qb c100)
      · exact absurd ((S.m.ah (by omega)).mp c40) h2
