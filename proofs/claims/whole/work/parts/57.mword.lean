/-! the reference reads a word -/
def lN14 : List Nat := [114, 97, 105, 110, 100, 114, 121, 102, 97, 114, 99, 111, 115, 116]
theorem ln_at : ∀ i, i < 14 → letL.getD i 0 = nI (lN14.getD i 0) ∧ lN14.getD i 0 < 128 := by decide
theorem ln_s : ∀ j, j < 14 → ∀ n, n < 4 → j + n < 14 → (lN14.drop j).take (n + 1) = lN14.getD j 0 :: (lN14.drop (j + 1)).take n := by decide
theorem tk_t {T : TX} {k p : Nat} (h : (takeF T k p []).1 = true) : aheadN T p = k ∧ (takeF T k p []).2.1 = p + 1 := by
  unfold takeF at h ⊢
  by_cases e : aheadN T p = k
  · rw [if_pos e]; exact ⟨e, rfl⟩
  · rw [if_neg e] at h; exact absurd (show false = true from h) (by decide)
theorem tk_f {T : TX} {k p : Nat} (h : (takeF T k p []).1 = false) : (¬ aheadN T p = k) ∧ (takeF T k p []).2.1 = p := by
  unfold takeF at h ⊢
  by_cases e : aheadN T p = k
  · rw [if_pos e] at h; exact absurd (show true = false from h) (by decide)
  · rw [if_neg e]; exact ⟨e, rfl⟩
set_option maxRecDepth 10000 in
set_option maxHeartbeats 4000000 in
theorem l_mword : ∀ (d : Nat) {h : hp_T} {T : TX} {a N : Nat} {M0 : Mem} (C : CS h) (ha : a + N ≤ 14) (hN : N ≤ 4) {w : wc_T} {κ : cx_T} {Φ : Option Value → hp_T → Prop} (X : CX w κ (d + 2) 8 cX8_takesWord 4 (some .boolean) Φ) {R : PR} (hΦ : ∀ M1, MtS T R.2.1 M1 → MtK M0 M1 → Φ (some (.int (b2 R.1))) (wi h M1)), ∀ (n i p : Nat) (M : Mem), i + n = N → MtS T p M → MtK M0 M → (∀ j, j < 14 → M 95 j = letL.getD j 0) → wordF T ((lN14.drop (a + i)).take n ++ [32]) p [] = R → GG w κ 2 [some (.ref 80), some (.int (nI a)), some (.int (nI N)), some (.int (nI i))] [] (wi h M) := by
  intro d h T a N M0 C ha hN w κ Φ X R hΦ n
  induction n with
  | zero =>
    intro i p M hi S K hL e
    subst e
    refine r_iload_n (pc := 2) X dX8_takesWord_2 rfl ?_
    refine r_iload_n (pc := 3) X dX8_takesWord_3 rfl ?_
    refine r_icmp_geN (pc := 4) X dX8_takesWord_4 (tgt := 30) (by decide) (by omega) (by omega) (fun c4 => ?_) (fun c4 => ?_)
    · refine r_aload_n (pc := 30) X dX8_takesWord_30 rfl ?_
      refine r_bipush (pc := 31) (v := (nI 32)) X dX8_takesWord_31 (by decide) ?_
      refine r_c0_1IW (pc := 33) X rfl dX8_takesWord_33 tc_8_262 mm_X8_takes (kc_80 C) rfl rfl (m_takes d C S (k := 32) (by decide)) (Nat.le_of_ble_eq_true rfl) (fun r33 M33 q33 => ?_)
      obtain ⟨qa, qm, qk⟩ := q33
      subst qa
      refine r_iret (pc := 36) X dX8_takesWord_36 rfl (b2_nar _) ?_
      exact hΦ M33 qm (K.tr qk)
    · exact absurd c4 (by omega)
  | succ n ih =>
    intro i p M hi S K hL e
    rw [ln_s (a + i) (by omega) n (by omega) (by omega)] at e
    have e2 : (if aheadN T p = lN14.getD (a + i) 0 then wordF T ((lN14.drop (a + i + 1)).take n ++ [32]) (p + 1) [] else (false, p, [])) = R := e
    refine r_iload_n (pc := 2) X dX8_takesWord_2 rfl ?_
    refine r_iload_n (pc := 3) X dX8_takesWord_3 rfl ?_
    refine r_icmp_geN (pc := 4) X dX8_takesWord_4 (tgt := 30) (by decide) (by omega) (by omega) (fun c4 => ?_) (fun c4 => ?_)
    · exact absurd c4 (by omega)
    · refine r_aload_n (pc := 7) X dX8_takesWord_7 rfl ?_
      refine r_aload_n (pc := 8) X dX8_takesWord_8 rfl ?_
      refine r_getr (pc := 9) X dX8_takesWord_9 tf_8_92 rfl (kc_80 C) (rc_80_27 C) ?_
      refine r_iload_n (pc := 12) X dX8_takesWord_12 rfl ?_
      refine r_iload_n (pc := 13) X dX8_takesWord_13 rfl ?_
      refine r_iadd (pc := 14) X dX8_takesWord_14 ?_
      rw [nI_add]
      refine r_ialdW (pc := 15) X dX8_takesWord_15 (kc_95 C) rfl (show a + i < 14 by omega) (by omega) ((hL (a + i) (by omega)).trans (ln_at (a + i) (by omega)).1) ?_
      refine r_c0_1IW (pc := 16) X rfl dX8_takesWord_16 tc_8_262 mm_X8_takes (kc_80 C) rfl rfl (m_takes d C S (ln_at (a + i) (by omega)).2) (Nat.le_of_ble_eq_true rfl) (fun r16 M16 q16 => ?_)
      obtain ⟨qa, qm, qk⟩ := q16
      subst qa
      refine r_if_neB (pc := 19) X dX8_takesWord_19 (tgt := 24) (by decide) (fun c19 => ?_) (fun c19 => ?_)
      · refine r_iinc (pc := 24) X dX8_takesWord_24 rfl (by first | exact nI_i1 _ | rfl) ?_
        refine r_goto (pc := 27) X dX8_takesWord_27 (tgt := 2) (by decide) ?_
        have t9 := tk_t c19
        rw [if_pos t9.1] at e2
        rw [t9.2] at qm
        exact ih (i + 1) (p + 1) M16 (by omega) qm (K.tr qk) (fun j hj => by rw [qk.1 95 (by omega)]; exact hL j hj) e2
      · refine r_iconst (pc := 22) (v := (nI 0)) X dX8_takesWord_22 (by decide) ?_
        refine r_iret (pc := 23) X dX8_takesWord_23 rfl rfl ?_
        have t9 := tk_f c19
        rw [if_neg t9.1] at e2
        subst e2
        rw [t9.2] at qm
        exact hΦ M16 qm (K.tr qk)
set_option maxRecDepth 10000 in
set_option maxHeartbeats 4000000 in
theorem m_word : ∀ (d : Nat) {h : hp_T} {M : Mem} {T : TX} {p a N : Nat} (C : CS h) (S : MtS T p M) (hL : ∀ j, j < 14 → M 95 j = letL.getD j 0) (ha : a + N ≤ 14) (hN : N ≤ 4), Ei (d + 2) nX8_takesWord [.ref 80, .int (nI a), .int (nI N)] (wi h M) (fun r M1 => r = b2 (wordF T ((lN14.drop a).take N ++ [32]) p []).1 ∧ MtS T (wordF T ((lN14.drop a).take N ++ [32]) p []).2.1 M1 ∧ MtK M M1) := by
  intro d h M T p a N C S hL ha hN
  refine Ex.of mm_X8_takesWord (Nat.le_of_ble_eq_true rfl) fun w κ X hk hnm => ?_
  refine r_iconst (pc := 0) (v := (nI 0)) X dX8_takesWord_0 (by decide) ?_
  refine r_istore_n (pc := 1) X dX8_takesWord_1 (Nat.le_of_ble_eq_true rfl) ?_
  exact l_mword d C ha hN X (fun M1 q1 q2 => ⟨⟨_, M1, rfl, rfl, rfl, q1, q2⟩, rfl⟩) N 0 p M (Nat.zero_add N) S MtK.rf hL rfl
