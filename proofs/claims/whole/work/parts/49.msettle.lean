/-! the reference settles what waits -/
theorem m_whole : ∀ (d : Nat) {h : hp_T} {M : Mem} {T : TX} {G : GP} {p : Nat} {cs W : List Nat} (C : CS h) (S : PSt T G p cs W M), Ev (d + 1) nX8_whole [.ref 80] (wi h M) (fun M1 => PSt T G p (stC W cs) (stW W) M1) := by
  intro d h M T G p cs W C S
  refine Ex.of mm_X8_whole (Nat.le_of_ble_eq_true rfl) fun w κ X hk hnm => ?_
  exact l_mwhole d C X W S (fun M1 q => ⟨⟨M1, rfl, rfl, q⟩, rfl⟩)
set_option maxRecDepth 10000 in
set_option maxHeartbeats 4000000 in
theorem l_msettle : ∀ (d : Nat) {h : hp_T} {T : TX} {G : GP} {p g : Nat} (C : CS h) (hg : g < 128) {w : wc_T} {κ : cx_T} {Φ : Option Value → hp_T → Prop} (X : CX w κ (d + 1) 8 cX8_settle 2 none Φ) (W : List Nat) {cs : List Nat} {M : Mem} (S : PSt T G p cs W M) (hΦ : ∀ M1, PSt T G p (seC g W cs) (seW g W) M1 → Φ none (wi h M1)), GG w κ 0 [some (.ref 80), some (.int (nI g))] [] (wi h M) := by
  intro d h T G p g C hg w κ Φ X W
  induction W with
  | nil =>
    intro cs M S hΦ
    refine r_aload_n (pc := 0) X dX8_settle_0 rfl ?_
    refine r_getiW (pc := 1) X dX8_settle_1 tf_8_86 rfl (kc_80 C) (show M 80 25 = nI 0 from S.wl) ?_
    refine r_if_le (pc := 4) X dX8_settle_4 (tgt := 72) (by decide) (fun c4 => ?_) (fun c4 => ?_)
    · refine r_vret (pc := 72) X dX8_settle_72 rfl ?_
      exact hΦ M S
    · exact absurd (show nI 0 ≤ 0 by decide) c4
  | cons c r ih =>
    intro cs M S hΦ
    have n1 := S.n
    have n2 : cs.length + (r.length + 1) + G.2.1 ≤ p := n1.1
    have c7 := S.w.1.2
    refine r_aload_n (pc := 0) X dX8_settle_0 rfl ?_
    refine r_getiW (pc := 1) X dX8_settle_1 tf_8_86 rfl (kc_80 C) (show M 80 25 = nI (r.length + 1) from S.wl) ?_
    refine r_if_le (pc := 4) X dX8_settle_4 (tgt := 72) (by decide) (fun c4 => ?_) (fun c4 => ?_)
    · exact absurd c4 (np_le (by omega))
    · refine r_aload_n (pc := 7) X dX8_settle_7 rfl ?_
      refine r_getr (pc := 8) X dX8_settle_8 tf_8_80 rfl (kc_80 C) (rc_80_23 C) ?_
      refine r_aload_n (pc := 11) X dX8_settle_11 rfl ?_
      refine r_getiW (pc := 12) X dX8_settle_12 tf_8_86 rfl (kc_80 C) (show M 80 25 = nI (r.length + 1) from S.wl) ?_
      refine r_iconst (pc := 15) (v := (nI 1)) X dX8_settle_15 (by decide) ?_
      refine r_isub (pc := 16) X dX8_settle_16 ?_
      rw [nI_subn (by omega), Nat.add_sub_cancel]
      refine r_ialdW (pc := 17) X dX8_settle_17 (kc_94 C) rfl (show r.length < 101 by omega) (by omega) S.w.1.1 ?_
      refine r_bipush (pc := 18) (v := (nI 38)) X dX8_settle_18 (by decide) ?_
      refine r_icmp_eqN (pc := 20) X dX8_settle_20 (tgt := 45) (by decide) (by omega) (by omega) (fun c20 => ?_) (fun c20 => ?_)
      · subst c20
        refine r_aload_n (pc := 45) X dX8_settle_45 rfl ?_
        refine r_dup (pc := 46) X dX8_settle_46 rfl ?_
        refine r_getiW (pc := 47) X dX8_settle_47 tf_8_86 rfl (kc_80 C) (show M 80 25 = nI (r.length + 1) from S.wl) ?_
        refine r_iconst (pc := 50) (v := (nI 1)) X dX8_settle_50 (by decide) ?_
        refine r_isub (pc := 51) X dX8_settle_51 ?_
        rw [nI_subn (by omega), Nat.add_sub_cancel]
        refine r_putiW (pc := 52) X dX8_settle_52 tf_8_86 rfl (Or.inl rfl) (kc_80 C) ⟨rfl, rfl⟩ ?_
        refine r_aload_n (pc := 55) X dX8_settle_55 rfl ?_
        refine r_aload_n (pc := 56) X dX8_settle_56 rfl ?_
        refine r_getr (pc := 57) X dX8_settle_57 tf_8_80 rfl (kc_80 C) (rc_80_23 C) ?_
        refine r_aload_n (pc := 60) X dX8_settle_60 rfl ?_
        refine r_getiW (pc := 61) X dX8_settle_61 tf_8_86 rfl (kc_80 C) rfl ?_
        refine r_ialdW (pc := 64) X dX8_settle_64 (kc_94 C) rfl (show r.length < 101 by omega) (by omega) S.w.1.1 ?_
        refine r_ineg (pc := 65) X dX8_settle_65 ?_
        refine r_c0_1VW (pc := 66) X rfl dX8_settle_66 tc_8_269 mm_X8_emits (kc_80 C) rfl rfl (m_emits d C S.ss (by omega)) (Nat.le_of_ble_eq_true rfl) (fun M66 q66 => ?_)
        subst q66
        refine r_goto (pc := 69) X dX8_settle_69 (tgt := 0) (by decide) ?_
        have e1 : seW g (38 :: r) = seW g r := if_pos (Or.inl rfl)
        have e2 : seC g (38 :: r) cs = seC g r (cs ++ [196608]) := if_pos (Or.inl rfl)
        rw [e1, e2] at hΦ
        refine ih (PSt.tell (W1 := r) (q := 196608) S ?_ ?_ ?_ ?_ ?_ ?_ S.w.2 (by omega)) hΦ
        · rw [em_93, mU_ne (by omega)]; exact congrArg (upd (M 93) (G.1 + cs.length)) (by decide)
        · intro b a1 a2; rw [em_b a1 a2, mU_ne a1]
        · intro j a1 a2 a3; rw [em_80 a1, mU_eq, pk_un a2]
        · rw [em_24]
        · rw [em_80 (by omega), mU_eq, pk_us]
        · rw [em_80 (by omega), mU_eq, pk_un (by omega)]; exact S.op.trans (congrArg nI (show opn (38 :: r) = opn r from if_neg (by omega)))
      · refine r_aload_n (pc := 23) X dX8_settle_23 rfl ?_
        refine r_getr (pc := 24) X dX8_settle_24 tf_8_80 rfl (kc_80 C) (rc_80_23 C) ?_
        refine r_aload_n (pc := 27) X dX8_settle_27 rfl ?_
        refine r_getiW (pc := 28) X dX8_settle_28 tf_8_86 rfl (kc_80 C) (show M 80 25 = nI (r.length + 1) from S.wl) ?_
        refine r_iconst (pc := 31) (v := (nI 1)) X dX8_settle_31 (by decide) ?_
        refine r_isub (pc := 32) X dX8_settle_32 ?_
        rw [nI_subn (by omega), Nat.add_sub_cancel]
        refine r_ialdW (pc := 33) X dX8_settle_33 (kc_94 C) rfl (show r.length < 101 by omega) (by omega) S.w.1.1 ?_
        refine r_bipush (pc := 34) (v := (nI 124)) X dX8_settle_34 (by decide) ?_
        refine r_icmp_neN (pc := 36) X dX8_settle_36 (tgt := 72) (by decide) (by omega) (by omega) (fun c36 => ?_) (fun c36 => ?_)
        · refine r_vret (pc := 72) X dX8_settle_72 rfl ?_
          have e0 : ¬ (c = 38 ∨ (c = 124 ∧ g ≠ 38)) := by omega
          have e1 : seW g (c :: r) = c :: r := if_neg e0
          have e2 : seC g (c :: r) cs = cs := if_neg e0
          rw [e1, e2] at hΦ
          exact hΦ M S
        · refine r_iload_n (pc := 39) X dX8_settle_39 rfl ?_
          refine r_bipush (pc := 40) (v := (nI 38)) X dX8_settle_40 (by decide) ?_
          refine r_icmp_eqN (pc := 42) X dX8_settle_42 (tgt := 72) (by decide) (by omega) (by omega) (fun c42 => ?_) (fun c42 => ?_)
          · refine r_vret (pc := 72) X dX8_settle_72 rfl ?_
            have e0 : ¬ (c = 38 ∨ (c = 124 ∧ g ≠ 38)) := by omega
            have e1 : seW g (c :: r) = c :: r := if_neg e0
            have e2 : seC g (c :: r) cs = cs := if_neg e0
            rw [e1, e2] at hΦ
            exact hΦ M S
          · subst c36
            refine r_aload_n (pc := 45) X dX8_settle_45 rfl ?_
            refine r_dup (pc := 46) X dX8_settle_46 rfl ?_
            refine r_getiW (pc := 47) X dX8_settle_47 tf_8_86 rfl (kc_80 C) (show M 80 25 = nI (r.length + 1) from S.wl) ?_
            refine r_iconst (pc := 50) (v := (nI 1)) X dX8_settle_50 (by decide) ?_
            refine r_isub (pc := 51) X dX8_settle_51 ?_
            rw [nI_subn (by omega), Nat.add_sub_cancel]
            refine r_putiW (pc := 52) X dX8_settle_52 tf_8_86 rfl (Or.inl rfl) (kc_80 C) ⟨rfl, rfl⟩ ?_
            refine r_aload_n (pc := 55) X dX8_settle_55 rfl ?_
            refine r_aload_n (pc := 56) X dX8_settle_56 rfl ?_
            refine r_getr (pc := 57) X dX8_settle_57 tf_8_80 rfl (kc_80 C) (rc_80_23 C) ?_
            refine r_aload_n (pc := 60) X dX8_settle_60 rfl ?_
            refine r_getiW (pc := 61) X dX8_settle_61 tf_8_86 rfl (kc_80 C) rfl ?_
            refine r_ialdW (pc := 64) X dX8_settle_64 (kc_94 C) rfl (show r.length < 101 by omega) (by omega) S.w.1.1 ?_
            refine r_ineg (pc := 65) X dX8_settle_65 ?_
            refine r_c0_1VW (pc := 66) X rfl dX8_settle_66 tc_8_269 mm_X8_emits (kc_80 C) rfl rfl (m_emits d C S.ss (by omega)) (Nat.le_of_ble_eq_true rfl) (fun M66 q66 => ?_)
            subst q66
            refine r_goto (pc := 69) X dX8_settle_69 (tgt := 0) (by decide) ?_
            have e1 : seW g (124 :: r) = seW g r := if_pos (Or.inr ⟨rfl, c42⟩)
            have e2 : seC g (124 :: r) cs = seC g r (cs ++ [262144]) := if_pos (Or.inr ⟨rfl, c42⟩)
            rw [e1, e2] at hΦ
            refine ih (PSt.tell (W1 := r) (q := 262144) S ?_ ?_ ?_ ?_ ?_ ?_ S.w.2 (by omega)) hΦ
            · rw [em_93, mU_ne (by omega)]; exact congrArg (upd (M 93) (G.1 + cs.length)) (by decide)
            · intro b a1 a2; rw [em_b a1 a2, mU_ne a1]
            · intro j a1 a2 a3; rw [em_80 a1, mU_eq, pk_un a2]
            · rw [em_24]
            · rw [em_80 (by omega), mU_eq, pk_us]
            · rw [em_80 (by omega), mU_eq, pk_un (by omega)]; exact S.op.trans (congrArg nI (show opn (124 :: r) = opn r from if_neg (by omega)))
theorem m_settle : ∀ (d : Nat) {h : hp_T} {M : Mem} {T : TX} {G : GP} {p g : Nat} {cs W : List Nat} (C : CS h) (hg : g < 128) (S : PSt T G p cs W M), Ev (d + 1) nX8_settle [.ref 80, .int (nI g)] (wi h M) (fun M1 => PSt T G p (seC g W cs) (seW g W) M1) := by
  intro d h M T G p g cs W C hg S
  refine Ex.of mm_X8_settle (Nat.le_of_ble_eq_true rfl) fun w κ X hk hnm => ?_
  exact l_msettle d C hg X W S (fun M1 q => ⟨⟨M1, rfl, rfl, q⟩, rfl⟩)
