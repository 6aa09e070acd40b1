/-! the reference reads a clause: the call -/
def MCq (T : TX) (s cc : Nat) (M : Mem) (R : MC) (r : Int32) (M1 : Mem) : Prop := r = b2 R.1 ∧ MtS T R.2.1 M1 ∧ CkK s cc M M1 ∧ (R.1 = true → M1 89 cc = nI R.2.2.1 ∧ M1 90 cc = nI R.2.2.2.1 ∧ M1 80 24 = nI (s + R.2.2.2.2.length) ∧ (R.2.2.1 ≤ 1 → M1 91 cc = nI s ∧ M1 92 cc = nI (s + R.2.2.2.2.length) ∧ ∀ i, i < R.2.2.2.2.length → M1 93 (s + i) = trF (R.2.2.2.2.getD i 0)))
theorem MCq.f {T : TX} {s cc p1 : Nat} {x : CLS} {M M1 : Mem} {R : MC} (e : R = (false, p1, x)) (S : MtS T p1 M1) (k : CkK s cc M M1) : MCq T s cc M R (nI 0) M1 := by
  subst e
  exact ⟨rfl, S, k, fun z => absurd (show false = true from z) (by decide)⟩
theorem wI_b (a : Int32) : 1 ≤ wordI a ∧ wordI a ≤ 4 := by
  rcases wordI_4 a with e | e | e | e <;> rw [e] <;> decide
set_option maxRecDepth 10000 in
set_option maxHeartbeats 4000000 in
theorem m_clause : ∀ (d : Nat) {h : hp_T} {M : Mem} {T : TX} {p s cc : Nat} (C : CS h) (S : MtS T p M) (hL : ∀ j, j < 14 → M 95 j = letL.getD j 0) (hs : M 80 24 = nI s) (hb : s ≤ 500 + p) (hcc : cc < 60), Ei (d + 5) nX8_takesClause [.ref 80, .int (nI cc)] (wi h M) (fun r M1 => MCq T s cc M (clM T p) r M1) := by
  intro d h M T p s cc C S hL hs hb hcc
  have wb := wI_b (aheadI T p)
  have wo := (word_out (T := T) (wN (wordI (aheadI T p))) p []).2
  refine Ex.of mm_X8_takesClause (Nat.le_of_ble_eq_true rfl) fun w κ X hk hnm => ?_
  refine r_aload_n (pc := 0) X dX8_takesClause_0 rfl ?_
  refine r_iload_n (pc := 1) X dX8_takesClause_1 rfl ?_
  refine r_c0_1IW (pc := 2) X rfl dX8_takesClause_2 tc_8_291 mm_X8_takesHead (kc_80 C) rfl rfl (m_head (d + 1) C S hL hcc) (Nat.le_of_ble_eq_true rfl) (fun r2 M2 q2 => ?_)
  obtain ⟨qa, qm, qk⟩ := q2
  subst qa
  refine r_if_eqB (pc := 5) X dX8_takesClause_5 (tgt := 15) (by decide) (fun c5 => ?_) (fun c5 => ?_)
  · refine r_iconst (pc := 15) (v := (nI 0)) X dX8_takesClause_15 (by decide) ?_
    refine r_iret (pc := 16) X dX8_takesClause_16 rfl rfl ?_
    exact ⟨⟨_, M2, rfl, rfl, MCq.f (if_neg (by rw [c5]; decide)) qm qk.ck⟩, rfl⟩
  · refine r_aload_n (pc := 8) X dX8_takesClause_8 rfl ?_
    refine r_c0_0IW (pc := 9) X rfl dX8_takesClause_9 tc_8_275 mm_X8_takesNumber (kc_80 C) rfl rfl (m_number (d + 2) C qm) (Nat.le_of_ble_eq_true rfl) (fun r9 M9 q9 => ?_)
    obtain ⟨na, nm, nk, nd⟩ := q9
    subst na
    refine r_if_neB (pc := 12) X dX8_takesClause_12 (tgt := 17) (by decide) (fun c12 => ?_) (fun c12 => ?_)
    · have wv : M9 89 cc = nI (wordI (aheadI T p) - 1) := by rw [nk.1 89 (by omega)]; exact qk.2.2.2
      have hs9 : M9 80 24 = nI s := (nk.2 24 (by omega) (by omega)).trans ((qk.2.1 24 (by omega) (by omega)).trans hs)
      have np := num_p.1 c12
      refine r_aload_n (pc := 17) X dX8_takesClause_17 rfl ?_
      refine r_getr (pc := 18) X dX8_takesClause_18 tf_8_68 rfl (kc_80 C) (rc_80_19 C) ?_
      refine r_iload_n (pc := 21) X dX8_takesClause_21 rfl ?_
      refine r_aload_n (pc := 22) X dX8_takesClause_22 rfl ?_
      refine r_getiW (pc := 23) X dX8_takesClause_23 tf_8_56 rfl (kc_80 C) (nd c12) ?_
      refine r_iastW (pc := 26) X dX8_takesClause_26 (kc_90 C) rfl (show cc < 60 by omega) (by omega) ?_
      refine r_aload_n (pc := 27) X dX8_takesClause_27 rfl ?_
      refine r_getr (pc := 28) X dX8_takesClause_28 tf_8_65 rfl (kc_80 C) (rc_80_18 C) ?_
      refine r_iload_n (pc := 31) X dX8_takesClause_31 rfl ?_
      refine r_ialdW (pc := 32) X dX8_takesClause_32 (kc_89 C) rfl (show cc < 60 by omega) (by omega) wv ?_
      refine r_iconst (pc := 33) (v := (nI 2)) X dX8_takesClause_33 (by decide) ?_
      refine r_icmp_geN (pc := 34) X dX8_takesClause_34 (tgt := 54) (by decide) (by omega) (by omega) (fun c34 => ?_) (fun c34 => ?_)
      · refine r_iconst (pc := 54) (v := (nI 1)) X dX8_takesClause_54 (by decide) ?_
        refine r_goto (pc := 55) X dX8_takesClause_55 (tgt := 59) (by decide) ?_
        refine r_iret (pc := 59) X dX8_takesClause_59 rfl rfl ?_
        have e : clM T p = (true, (numF T (wordF T (wN (wordI (aheadI T p))) p []).2.1).2.1, (wordI (aheadI T p) - 1, (numF T (wordF T (wN (wordI (aheadI T p))) p []).2.1).2.2, [])) := (if_pos c5).trans ((if_pos c12).trans (if_pos (by omega)))
        rw [e]
        exact ⟨⟨nI 1, _, rfl, rfl, rfl, nm.u90, (qk.ck.tr nk.ck).tr CkK.u90, fun _ => ⟨by rw [mU_ne (by omega)]; exact wv, by rw [mU_eq, pk_us], by rw [mU_ne (by omega)]; exact hs9, fun y => absurd (show wordI (aheadI T p) - 1 ≤ 1 from y) (by omega)⟩⟩, rfl⟩
      · refine r_aload_n (pc := 37) X dX8_takesClause_37 rfl ?_
        refine r_bipush (pc := 38) (v := (nI 32)) X dX8_takesClause_38 (by decide) ?_
        refine r_c0_1IW (pc := 40) X rfl dX8_takesClause_40 tc_8_262 mm_X8_takes (kc_80 C) rfl rfl (m_takes (d + 3) C nm.u90 (k := 32) (by decide)) (Nat.le_of_ble_eq_true rfl) (fun r40 M40 q40 => ?_)
        obtain ⟨ta, tm, tk⟩ := q40
        subst ta
        refine r_if_eqB (pc := 43) X dX8_takesClause_43 (tgt := 58) (by decide) (fun c43 => ?_) (fun c43 => ?_)
        · refine r_iconst (pc := 58) (v := (nI 0)) X dX8_takesClause_58 (by decide) ?_
          refine r_iret (pc := 59) X dX8_takesClause_59 rfl rfl ?_
          have f0 : clM T p = clM2 T (wordI (aheadI T p)) (numF T (wordF T (wN (wordI (aheadI T p))) p []).2.1).2.2 (takeF T 32 (numF T (wordF T (wN (wordI (aheadI T p))) p []).2.1).2.1 []) := (if_pos c5).trans ((if_pos c12).trans (if_neg (by omega)))
          exact ⟨⟨_, _, rfl, rfl, MCq.f (f0.trans (if_neg (by rw [c43]; decide))) tm ((((qk.ck).tr nk.ck).tr CkK.u90).tr tk.ck)⟩, rfl⟩
        · have t9 := tk_t c43
          have hs40 : M40 80 24 = nI s := (tk.2 24 (by omega) (by omega)).trans (by rw [mU_ne (by omega)]; exact hs9)
          refine r_aload_n (pc := 46) X dX8_takesClause_46 rfl ?_
          refine r_iload_n (pc := 47) X dX8_takesClause_47 rfl ?_
          refine r_c0_1IW (pc := 48) X rfl dX8_takesClause_48 tc_8_294 mm_X8_takesE (kc_80 C) rfl rfl (m_E d C tm hs40 (by omega) hcc (by omega)) (Nat.le_of_ble_eq_true rfl) (fun r48 M48 q48 => ?_)
          obtain ⟨xa, xm, xe, xk⟩ := q48
          subst xa
          refine r_if_eqB (pc := 51) X dX8_takesClause_51 (tgt := 58) (by decide) (fun c51 => ?_) (fun c51 => ?_)
          · refine r_iconst (pc := 58) (v := (nI 0)) X dX8_takesClause_58 (by decide) ?_
            refine r_iret (pc := 59) X dX8_takesClause_59 rfl rfl ?_
            have f0 : clM T p = clM2 T (wordI (aheadI T p)) (numF T (wordF T (wN (wordI (aheadI T p))) p []).2.1).2.2 (takeF T 32 (numF T (wordF T (wN (wordI (aheadI T p))) p []).2.1).2.1 []) := (if_pos c5).trans ((if_pos c12).trans (if_neg (by omega)))
            have f1 := f0.trans (if_pos c43)
            rw [f1]
            exact ⟨⟨nI 0, _, rfl, rfl, c51 ▸ rfl, xm, ((((qk.ck).tr nk.ck).tr CkK.u90).tr tk.ck).tr xk.ck, fun z => absurd (c51.symm.trans z) (by decide)⟩, rfl⟩
          · refine r_iconst (pc := 54) (v := (nI 1)) X dX8_takesClause_54 (by decide) ?_
            refine r_goto (pc := 55) X dX8_takesClause_55 (tgt := 59) (by decide) ?_
            refine r_iret (pc := 59) X dX8_takesClause_59 rfl rfl ?_
            have f0 : clM T p = clM2 T (wordI (aheadI T p)) (numF T (wordF T (wN (wordI (aheadI T p))) p []).2.1).2.2 (takeF T 32 (numF T (wordF T (wN (wordI (aheadI T p))) p []).2.1).2.1 []) := (if_pos c5).trans ((if_pos c12).trans (if_neg (by omega)))
            have f1 := f0.trans (if_pos c43)
            rw [f1]
            have x9 := xe c51
            refine ⟨⟨nI 1, M48, rfl, rfl, ?_, xm, ((((qk.ck).tr nk.ck).tr CkK.u90).tr tk.ck).tr xk.ck, fun _ => ⟨?_, ?_, x9.1, fun _ => ⟨xk.2.2.2.2, x9.2.1, x9.2.2⟩⟩⟩, rfl⟩
            · show nI 1 = b2 (exprF T (factorF T 4) _ []).1
              rw [c51]
              rfl
            · rw [xk.1 89 (by omega) (by omega) (by omega) (by omega) (by omega), tk.1 89 (by omega), mU_ne (by omega)]; exact wv
            · rw [xk.1 90 (by omega) (by omega) (by omega) (by omega) (by omega), tk.1 90 (by omega), mU_eq, pk_us]; rfl
    · refine r_iconst (pc := 15) (v := (nI 0)) X dX8_takesClause_15 (by decide) ?_
      refine r_iret (pc := 16) X dX8_takesClause_16 rfl rfl ?_
      exact ⟨⟨_, M9, rfl, rfl, MCq.f ((if_pos c5).trans (if_neg (by rw [c12]; decide))) nm (qk.ck.tr nk.ck)⟩, rfl⟩
