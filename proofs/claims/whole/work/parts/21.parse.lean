/-! the reader: tests, words, factors, expressions -/
def letN (c : Nat) : Nat := if c = 112 then 0 else if c = 107 then 1 else if c = 100 then 2 else if c = 104 then 3 else if c = 119 then 4 else if c = 115 then 5 else 6
theorem let_n : ∀ k, k < 128 → idxF 5 (nI k) = if letN k < 6 then nI (letN k) else -1 := by decide +kernel
theorem rel_n : ∀ k, k < 128 → idxF 6 (nI k) = if 60 ≤ k ∧ k ≤ 62 then nI (k - 60) else -1 := by decide +kernel
def testF (T : TX) (p : Nat) (out : List Nat) : PR :=
  if letN (aheadN T p) < 6 then (if 60 ≤ aheadN T (p + 1) ∧ aheadN T (p + 1) ≤ 62 then
    (if (numF T (p + 2)).1 = true then (true, (numF T (p + 2)).2.1, out ++ [(aheadN T (p + 1) - 60) * 65536 + letN (aheadN T p) * 256 + (numF T (p + 2)).2.2]) else (false, p + 2, out)) else (false, p + 1, out)) else (false, p, out)
theorem num_lt {T : TX} {p : Nat} : (numF T p).2.2 < 100 := by
  unfold numF digN
  split
  · rename_i h1
    rw [Bool.and_eq_true, decide_eq_true_eq, decide_eq_true_eq] at h1
    split
    · rename_i h2
      rw [Bool.and_eq_true, decide_eq_true_eq, decide_eq_true_eq] at h2
      show 10 * _ + _ < 100
      omega
    · show _ - 48 < 100
      omega
  · show 0 < 100
    omega
theorem num_p {T : TX} {p : Nat} : ((numF T p).1 = true → p + 1 ≤ (numF T p).2.1) ∧ ((numF T p).1 = false → (numF T p).2.1 = p) := by
  unfold numF
  split
  · split
    · exact ⟨fun _ => Nat.le_succ _, fun z => by cases z⟩
    · exact ⟨fun _ => Nat.le_refl _, fun z => by cases z⟩
  · exact ⟨fun z => absurd (show false = true from z) (by decide), fun _ => rfl⟩
section SRe
variable {T : TX} {p : Nat} {out : List Nat} {M : Mem}
theorem let_t (S : RdS T p out M) (h : 0 ≤ (if p < T.1 then idxF 5 (nI (T.2 p)) else -1)) : p < T.1 ∧ letN (aheadN T p) < 6 ∧ (if p < T.1 then idxF 5 (nI (T.2 p)) else -1) = nI (letN (aheadN T p)) := by
  by_cases hp : p < T.1
  · have t7 := S.t7 hp
    have e : aheadN T p = T.2 p := if_pos hp
    rw [if_pos hp, let_n _ (by omega)] at h ⊢
    rw [e]
    by_cases q : letN (T.2 p) < 6
    · rw [if_pos q]; exact ⟨hp, q, rfl⟩
    · rw [if_neg q] at h; exact absurd h (by decide)
  · rw [if_neg hp] at h; exact absurd h (by decide)
theorem let_f (S : RdS T p out M) (h : ¬ 0 ≤ (if p < T.1 then idxF 5 (nI (T.2 p)) else -1)) : ¬ letN (aheadN T p) < 6 := by
  by_cases hp : p < T.1
  · have t7 := S.t7 hp
    have e : aheadN T p = T.2 p := if_pos hp
    rw [if_pos hp, let_n _ (by omega)] at h
    rw [e]
    intro q
    rw [if_pos q] at h
    exact h (nI_pos' (by omega))
  · have e : aheadN T p = 999 := if_neg hp
    rw [e]
    decide
theorem rel_t (S : RdS T p out M) (h : 0 ≤ (if p < T.1 then idxF 6 (nI (T.2 p)) else -1)) : p < T.1 ∧ (60 ≤ aheadN T p ∧ aheadN T p ≤ 62) ∧ (if p < T.1 then idxF 6 (nI (T.2 p)) else -1) = nI (aheadN T p - 60) := by
  by_cases hp : p < T.1
  · have t7 := S.t7 hp
    have e : aheadN T p = T.2 p := if_pos hp
    rw [if_pos hp, rel_n _ (by omega)] at h ⊢
    rw [e]
    by_cases q : 60 ≤ T.2 p ∧ T.2 p ≤ 62
    · rw [if_pos q]; exact ⟨hp, q, rfl⟩
    · rw [if_neg q] at h; exact absurd h (by decide)
  · rw [if_neg hp] at h; exact absurd h (by decide)
theorem rel_f (S : RdS T p out M) (h : ¬ 0 ≤ (if p < T.1 then idxF 6 (nI (T.2 p)) else -1)) : ¬ (60 ≤ aheadN T p ∧ aheadN T p ≤ 62) := by
  by_cases hp : p < T.1
  · have t7 := S.t7 hp
    have e : aheadN T p = T.2 p := if_pos hp
    rw [if_pos hp, rel_n _ (by omega)] at h
    rw [e]
    intro q
    rw [if_pos q] at h
    exact h (nI_pos' (by omega))
  · have e : aheadN T p = 999 := if_neg hp
    rw [e]
    omega
end SRe

set_option maxRecDepth 10000 in
set_option maxHeartbeats 4000000 in
theorem e_test : ∀ (d : Nat) {h : hp_T} {M : Mem} {T : TX} {p : Nat} {out : List Nat} (C : CS h) (S : RdS T p out M), Ei (d + 5) nX3_test [.ref 65] (wi h M) (fun r M1 => r = b2 (testF T p out).1 ∧ RdP T (testF T p out) M M1) := by
  intro d h M T p out C S
  have n1 := S.n100
  have n2 := S.ple
  have n3 := S.ule
  refine Ex.of mm_X3_test (Nat.le_of_ble_eq_true rfl) fun w κ X hk hnm => ?_
  refine r_aload_n (pc := 0) X dX3_test_0 rfl ?_
  refine r_ldcS (pc := 1) (i := 5) X dX3_test_1 (by decide) rfl rfl ?_
  refine r_c0_1P (pc := 3) X rfl dX3_test_3 tc_3_99 mm_X3_among (kc_65 C) rfl rfl (e_among d C S (i := 5) (by decide)) (Nat.le_of_ble_eq_true rfl) ?_
  refine r_istore_n (pc := 6) X dX3_test_6 (Nat.le_of_ble_eq_true rfl) ?_
  refine r_iload_n (pc := 7) X dX3_test_7 rfl ?_
  refine r_if_ge (pc := 8) X dX3_test_8 (tgt := 13) (by decide) (fun c8 => ?_) (fun c8 => ?_)
  · obtain ⟨hp, hl, el⟩ := let_t S c8
    rw [el]
    have S1 := S.adv hp
    refine r_aload_n (pc := 13) X dX3_test_13 rfl ?_
    refine r_dup (pc := 14) X dX3_test_14 rfl ?_
    refine r_getiW (pc := 15) X dX3_test_15 tf_3_23 rfl (kc_65 C) S.pl ?_
    refine r_iconst (pc := 18) (v := (nI 1)) X dX3_test_18 (by decide) ?_
    refine r_iadd (pc := 19) X dX3_test_19 ?_
    refine r_putiW (pc := 20) X dX3_test_20 tf_3_23 rfl (Or.inl rfl) (kc_65 C) ⟨rfl, rfl⟩ ?_
    refine r_aload_n (pc := 23) X dX3_test_23 rfl ?_
    refine r_ldcS (pc := 24) (i := 6) X dX3_test_24 (by decide) rfl rfl ?_
    refine r_c0_1P (pc := 26) X rfl dX3_test_26 tc_3_99 mm_X3_among (kc_65 C) rfl rfl (e_among d C S1 (i := 6) (by decide)) (Nat.le_of_ble_eq_true rfl) ?_
    refine r_istore_n (pc := 29) X dX3_test_29 (Nat.le_of_ble_eq_true rfl) ?_
    refine r_iload_n (pc := 30) X dX3_test_30 rfl ?_
    refine r_if_ge (pc := 31) X dX3_test_31 (tgt := 36) (by decide) (fun c31 => ?_) (fun c31 => ?_)
    · obtain ⟨hp2, hr, er⟩ := rel_t S1 c31
      rw [er]
      have S2 := S1.adv hp2
      have K2 : RdK M _ := (RdK.u (x := nI p + nI 1) (Or.inl rfl)).tr (RdK.u (x := nI (p + 1) + nI 1) (Or.inl rfl))
      refine r_aload_n (pc := 36) X dX3_test_36 rfl ?_
      refine r_dup (pc := 37) X dX3_test_37 rfl ?_
      refine r_getiW (pc := 38) X dX3_test_38 tf_3_23 rfl (kc_65 C) S1.pl ?_
      refine r_iconst (pc := 41) (v := (nI 1)) X dX3_test_41 (by decide) ?_
      refine r_iadd (pc := 42) X dX3_test_42 ?_
      refine r_putiW (pc := 43) X dX3_test_43 tf_3_23 rfl (Or.inl rfl) (kc_65 C) ⟨rfl, rfl⟩ ?_
      refine r_aload_n (pc := 46) X dX3_test_46 rfl ?_
      refine r_c0_0IW (pc := 47) X rfl dX3_test_47 tc_3_63 mm_X3_number (kc_65 C) rfl rfl (e_number (d + 3) C S2) (Nat.le_of_ble_eq_true rfl) (fun r47 M47 q47 => ?_)
      refine r_if_ne (pc := 50) X dX3_test_50 (tgt := 55) (by decide) (fun c50 => ?_) (fun c50 => ?_)
      · have h4 : (numF T (p + 2)).1 = true := by rw [q47.1] at c50; exact b2_n.mp c50
        have S4 := q47.2.1.1
        refine r_aload_n (pc := 55) X dX3_test_55 rfl ?_
        refine r_iload_n (pc := 56) X dX3_test_56 rfl ?_
        refine r_iload_n (pc := 57) X dX3_test_57 rfl ?_
        refine r_aload_n (pc := 58) X dX3_test_58 rfl ?_
        refine r_getiW (pc := 59) X dX3_test_59 tf_3_66 rfl (kc_65 C) (q47.2.2 h4) ?_
        refine r_c0_3VW (pc := 62) X rfl dX3_test_62 tc_3_71 mm_X3_emit (kc_65 C) rfl rfl (e_emit (d + 3) C S4 (by omega) hl num_lt (by have := (num_p (T := T) (p := p + 2)).1 h4; have := S4.ple; show out.length + 1 ≤ (numF T (p + 2)).2.1; omega)) (Nat.le_of_ble_eq_true rfl) (fun M62 q62 => ?_)
        refine r_iconst (pc := 65) (v := (nI 1)) X dX3_test_65 (by decide) ?_
        refine r_iret (pc := 66) X dX3_test_66 rfl rfl ?_
        have e : testF T p out = (true, (numF T (p + 2)).2.1, out ++ [(aheadN T (p + 1) - 60) * 65536 + letN (aheadN T p) * 256 + (numF T (p + 2)).2.2]) := by unfold testF; rw [if_pos hl, if_pos hr, if_pos h4]
        rw [e]
        exact ⟨⟨_, _, rfl, rfl, rfl, q62.1, (K2.tr q47.2.1.2).tr q62.2⟩, rfl⟩
      · refine r_iconst (pc := 53) (v := (nI 0)) X dX3_test_53 (by decide) ?_
        refine r_iret (pc := 54) X dX3_test_54 rfl rfl ?_
        have h4 : (numF T (p + 2)).1 = false := by rw [q47.1] at c50; exact b2_z.mp c50
        have e : testF T p out = (false, p + 2, out) := by unfold testF; rw [if_pos hl, if_pos hr, if_neg (by rw [h4]; decide)]
        rw [e]
        have S4 := q47.2.1.1
        rw [show ((numF T (p + 1 + 1)).1, (numF T (p + 1 + 1)).2.1, out).2.1 = p + 2 from num_p.2 h4] at S4
        exact ⟨⟨_, _, rfl, rfl, rfl, S4, K2.tr q47.2.1.2⟩, rfl⟩
    · refine r_iconst (pc := 34) (v := (nI 0)) X dX3_test_34 (by decide) ?_
      refine r_iret (pc := 35) X dX3_test_35 rfl rfl ?_
      have e : testF T p out = (false, p + 1, out) := by unfold testF; rw [if_pos hl, if_neg (rel_f S1 c31)]
      rw [e]
      exact ⟨⟨_, _, rfl, rfl, rfl, S1, RdK.u (Or.inl rfl)⟩, rfl⟩
  · refine r_iconst (pc := 11) (v := (nI 0)) X dX3_test_11 (by decide) ?_
    refine r_iret (pc := 12) X dX3_test_12 rfl rfl ?_
    have e : testF T p out = (false, p, out) := if_neg (let_f S c8)
    rw [e]
    exact ⟨⟨_, M, rfl, rfl, rfl, S, RdK.rf⟩, rfl⟩
def wN (i : Nat) : List Nat := [[112, 107, 100, 104, 119, 115], [114, 97, 105, 110, 32], [100, 114, 121, 32], [102, 97, 114, 32], [99, 111, 115, 116, 32], [112, 107, 100, 104, 119, 115], [60, 61, 62]].getD i []
theorem wN_at : ∀ i, i < 7 → ∀ j, j < (sBy i).length → (sBy i).getD j 0 = nI ((wN i).getD j 0) ∧ (wN i).getD j 0 < 128 ∧ (wN i).drop j = (wN i).getD j 0 :: (wN i).drop (j + 1) := by decide +kernel
theorem wN_end : ∀ i, i < 7 → (wN i).drop (sBy i).length = [] := by decide
def wordF (T : TX) : List Nat → Nat → List Nat → PR
  | [], p, out => (true, p, out)
  | c :: cs, p, out => if aheadN T p = c then wordF T cs (p + 1) out else (false, p, out)
theorem l_word : ∀ (d : Nat) {h : hp_T} {T : TX} {i : Nat} {M0 : Mem} (C : CS h) (hi : i < 7) {out : List Nat} {w : wc_T} {κ : cx_T} {Φ : Option Value → hp_T → Prop} (X : CX w κ (d + 4) 3 cX3_word 4 (some .boolean) Φ) {R : PR} (hΦ : ∀ M1, RdP T R M0 M1 → Φ (some (.int (b2 R.1))) (wi h M1)) {x1 : Int32}, ∀ n j p : Nat, ∀ M : Mem, j + n = (sBy i).length → RdS T p out M → RdK M0 M → wordF T ((wN i).drop j) p out = R → GG w κ 38 [some (.ref 65), some (.int x1), some (.ref (3 + i)), some (.int (nI j))] [] (wi h M) := by
  intro d h T i M0 C hi out w κ Φ X R hΦ x1 n
  have hn := sBy_31 i hi
  induction n with
  | zero =>
    intro j p M hj S K hw
    have e : j = (sBy i).length := by omega
    subst e
    rw [wN_end i hi] at hw
    subst hw
    refine r_iload_n (pc := 38) X dX3_word_38 rfl ?_
    refine r_aload_n (pc := 39) X dX3_word_39 rfl ?_
    refine r_cS_0P (pc := 40) X rfl dX3_word_40 tc_3_83 mm_J0_length_8abf5 (by first | exact hi | decide) rfl (j_length (d + 2) hi) (Nat.le_of_ble_eq_true rfl) ?_
    refine r_icmp_geN (pc := 43) X dX3_word_43 (tgt := 66) (by decide) (by omega) (by omega) (fun c43 => ?_) (fun c43 => ?_)
    · refine r_iconst (pc := 66) (v := (nI 1)) X dX3_word_66 (by decide) ?_
      refine r_iret (pc := 67) X dX3_word_67 rfl rfl ?_
      exact hΦ M ⟨S, K⟩
    · exact absurd (Nat.le_refl _) c43
  | succ n ih =>
    intro j p M hj S K hw
    obtain ⟨g1, g2, g3⟩ := wN_at i hi j (by omega)
    rw [g3] at hw
    have ih := fun M => ih (j + 1) (p + 1) M (by omega)
    by_cases ea : aheadN T p = (wN i).getD j 0
    · have et : takeF T ((wN i).getD j 0) p out = (true, p + 1, out) := if_pos ea
      have hw : wordF T ((wN i).drop (j + 1)) (p + 1) out = R := (if_pos ea).symm.trans hw
      refine r_iload_n (pc := 38) X dX3_word_38 rfl ?_
      refine r_aload_n (pc := 39) X dX3_word_39 rfl ?_
      refine r_cS_0P (pc := 40) X rfl dX3_word_40 tc_3_83 mm_J0_length_8abf5 (by first | exact hi | decide) rfl (j_length (d + 2) hi) (Nat.le_of_ble_eq_true rfl) ?_
      refine r_icmp_geN (pc := 43) X dX3_word_43 (tgt := 66) (by decide) (by omega) (by omega) (fun c43 => ?_) (fun c43 => ?_)
      · exact absurd c43 (by omega)
      · refine r_aload_n (pc := 46) X dX3_word_46 rfl ?_
        refine r_aload_n (pc := 47) X dX3_word_47 rfl ?_
        refine r_iload_n (pc := 48) X dX3_word_48 rfl ?_
        refine r_cS_1P (pc := 49) X rfl dX3_word_49 tc_3_87 mm_J0_charAt_5068e (by first | exact hi | decide) rfl (j_charAt d hi (j := j) (by omega)) (Nat.le_of_ble_eq_true rfl) ?_
        rw [g1]
        refine r_c0_1IW (pc := 52) X rfl dX3_word_52 tc_3_41 mm_X3_take (kc_65 C) rfl rfl (e_take (d + 3) C S g2) (Nat.le_of_ble_eq_true rfl) (fun r52 M52 q52 => ?_)
        refine r_if_ne (pc := 55) X dX3_word_55 (tgt := 60) (by decide) (fun c55 => ?_) (fun c55 => ?_)
        · refine r_iinc (pc := 60) X dX3_word_60 rfl (by first | exact nI_i1 _ | rfl) ?_
          refine r_goto (pc := 63) X dX3_word_63 (tgt := 38) (by decide) ?_
          rw [et] at q52
          exact ih _ q52.2.1 (K.tr q52.2.2) hw
        · exact absurd c55 (by rw [q52.1, et]; exact b2_n.mpr rfl)
    · have et : takeF T ((wN i).getD j 0) p out = (false, p, out) := if_neg ea
      have hw : (false, p, out) = R := (if_neg ea).symm.trans hw
      subst hw
      refine r_iload_n (pc := 38) X dX3_word_38 rfl ?_
      refine r_aload_n (pc := 39) X dX3_word_39 rfl ?_
      refine r_cS_0P (pc := 40) X rfl dX3_word_40 tc_3_83 mm_J0_length_8abf5 (by first | exact hi | decide) rfl (j_length (d + 2) hi) (Nat.le_of_ble_eq_true rfl) ?_
      refine r_icmp_geN (pc := 43) X dX3_word_43 (tgt := 66) (by decide) (by omega) (by omega) (fun c43 => ?_) (fun c43 => ?_)
      · exact absurd c43 (by omega)
      · refine r_aload_n (pc := 46) X dX3_word_46 rfl ?_
        refine r_aload_n (pc := 47) X dX3_word_47 rfl ?_
        refine r_iload_n (pc := 48) X dX3_word_48 rfl ?_
        refine r_cS_1P (pc := 49) X rfl dX3_word_49 tc_3_87 mm_J0_charAt_5068e (by first | exact hi | decide) rfl (j_charAt d hi (j := j) (by omega)) (Nat.le_of_ble_eq_true rfl) ?_
        rw [g1]
        refine r_c0_1IW (pc := 52) X rfl dX3_word_52 tc_3_41 mm_X3_take (kc_65 C) rfl rfl (e_take (d + 3) C S g2) (Nat.le_of_ble_eq_true rfl) (fun r52 M52 q52 => ?_)
        refine r_if_ne (pc := 55) X dX3_word_55 (tgt := 60) (by decide) (fun c55 => ?_) (fun c55 => ?_)
        · exact absurd (by rw [q52.1, et]; rfl) c55
        · refine r_iconst (pc := 58) (v := (nI 0)) X dX3_word_58 (by decide) ?_
          refine r_iret (pc := 59) X dX3_word_59 rfl rfl ?_
          rw [et] at q52
          exact hΦ _ ⟨q52.2.1, K.tr q52.2.2⟩
def wordI (a : Int32) : Nat := if a = nI 114 then 1 else if a = nI 100 then 2 else if a = nI 102 then 3 else 4
set_option maxRecDepth 10000 in
set_option maxHeartbeats 4000000 in
theorem e_word : ∀ (d : Nat) (a : Int32) {h : hp_T} {M : Mem} {T : TX} {p : Nat} {out : List Nat} (C : CS h) (S : RdS T p out M), Ei (d + 4) nX3_word [.ref 65, .int a] (wi h M) (fun r M1 => r = b2 (wordF T (wN (wordI a)) p out).1 ∧ RdP T (wordF T (wN (wordI a)) p out) M M1) := by
  intro d a h M T p out C S
  refine Ex.of mm_X3_word (Nat.le_of_ble_eq_true rfl) fun w κ X hk hnm => ?_
  refine r_iload_n (pc := 0) X dX3_word_0 rfl ?_
  refine r_bipush (pc := 1) (v := (nI 114)) X dX3_word_1 (by decide) ?_
  refine r_icmp_ne (pc := 3) X dX3_word_3 (tgt := 11) (by decide) (fun c3 => ?_) (fun c3 => ?_)
  · refine r_iload_n (pc := 11) X dX3_word_11 rfl ?_
    refine r_bipush (pc := 12) (v := (nI 100)) X dX3_word_12 (by decide) ?_
    refine r_icmp_ne (pc := 14) X dX3_word_14 (tgt := 22) (by decide) (fun c14 => ?_) (fun c14 => ?_)
    · refine r_iload_n (pc := 22) X dX3_word_22 rfl ?_
      refine r_bipush (pc := 23) (v := (nI 102)) X dX3_word_23 (by decide) ?_
      refine r_icmp_ne (pc := 25) X dX3_word_25 (tgt := 33) (by decide) (fun c25 => ?_) (fun c25 => ?_)
      · refine r_ldcS (pc := 33) (i := 4) X dX3_word_33 (by decide) rfl rfl ?_
        refine r_astore_n (pc := 35) X dX3_word_35 (Nat.le_of_ble_eq_true rfl) ?_
        refine r_iconst (pc := 36) (v := (nI 0)) X dX3_word_36 (by decide) ?_
        refine r_istore_n (pc := 37) X dX3_word_37 (Nat.le_of_ble_eq_true rfl) ?_
        first
          | (have e : wordI a = 1 := if_pos c3
             rw [e] at X
             exact l_word d C (i := 1) (by decide) X (fun M1 q => ⟨⟨_, M1, rfl, rfl, rfl, q⟩, rfl⟩) _ 0 p M (Nat.zero_add _) S RdK.rf rfl)
          | (have e : wordI a = 2 := by rw [wordI, if_neg c3, if_pos c14]
             rw [e] at X
             exact l_word d C (i := 2) (by decide) X (fun M1 q => ⟨⟨_, M1, rfl, rfl, rfl, q⟩, rfl⟩) _ 0 p M (Nat.zero_add _) S RdK.rf rfl)
          | (have e : wordI a = 3 := by rw [wordI, if_neg c3, if_neg c14, if_pos c25]
             rw [e] at X
             exact l_word d C (i := 3) (by decide) X (fun M1 q => ⟨⟨_, M1, rfl, rfl, rfl, q⟩, rfl⟩) _ 0 p M (Nat.zero_add _) S RdK.rf rfl)
          | (have e : wordI a = 4 := by rw [wordI, if_neg c3, if_neg c14, if_neg c25]
             rw [e] at X
             exact l_word d C (i := 4) (by decide) X (fun M1 q => ⟨⟨_, M1, rfl, rfl, rfl, q⟩, rfl⟩) _ 0 p M (Nat.zero_add _) S RdK.rf rfl)
      · refine r_ldcS (pc := 28) (i := 3) X dX3_word_28 (by decide) rfl rfl ?_
        refine r_goto (pc := 30) X dX3_word_30 (tgt := 35) (by decide) ?_
        refine r_astore_n (pc := 35) X dX3_word_35 (Nat.le_of_ble_eq_true rfl) ?_
        refine r_iconst (pc := 36) (v := (nI 0)) X dX3_word_36 (by decide) ?_
        refine r_istore_n (pc := 37) X dX3_word_37 (Nat.le_of_ble_eq_true rfl) ?_
        first
          | (have e : wordI a = 1 := if_pos c3
             rw [e] at X
             exact l_word d C (i := 1) (by decide) X (fun M1 q => ⟨⟨_, M1, rfl, rfl, rfl, q⟩, rfl⟩) _ 0 p M (Nat.zero_add _) S RdK.rf rfl)
          | (have e : wordI a = 2 := by rw [wordI, if_neg c3, if_pos c14]
             rw [e] at X
             exact l_word d C (i := 2) (by decide) X (fun M1 q => ⟨⟨_, M1, rfl, rfl, rfl, q⟩, rfl⟩) _ 0 p M (Nat.zero_add _) S RdK.rf rfl)
          | (have e : wordI a = 3 := by rw [wordI, if_neg c3, if_neg c14, if_pos c25]
             rw [e] at X
             exact l_word d C (i := 3) (by decide) X (fun M1 q => ⟨⟨_, M1, rfl, rfl, rfl, q⟩, rfl⟩) _ 0 p M (Nat.zero_add _) S RdK.rf rfl)
          | (have e : wordI a = 4 := by rw [wordI, if_neg c3, if_neg c14, if_neg c25]
             rw [e] at X
             exact l_word d C (i := 4) (by decide) X (fun M1 q => ⟨⟨_, M1, rfl, rfl, rfl, q⟩, rfl⟩) _ 0 p M (Nat.zero_add _) S RdK.rf rfl)
    · refine r_ldcS (pc := 17) (i := 2) X dX3_word_17 (by decide) rfl rfl ?_
      refine r_goto (pc := 19) X dX3_word_19 (tgt := 35) (by decide) ?_
      refine r_astore_n (pc := 35) X dX3_word_35 (Nat.le_of_ble_eq_true rfl) ?_
      refine r_iconst (pc := 36) (v := (nI 0)) X dX3_word_36 (by decide) ?_
      refine r_istore_n (pc := 37) X dX3_word_37 (Nat.le_of_ble_eq_true rfl) ?_
      first
        | (have e : wordI a = 1 := if_pos c3
           rw [e] at X
           exact l_word d C (i := 1) (by decide) X (fun M1 q => ⟨⟨_, M1, rfl, rfl, rfl, q⟩, rfl⟩) _ 0 p M (Nat.zero_add _) S RdK.rf rfl)
        | (have e : wordI a = 2 := by rw [wordI, if_neg c3, if_pos c14]
           rw [e] at X
           exact l_word d C (i := 2) (by decide) X (fun M1 q => ⟨⟨_, M1, rfl, rfl, rfl, q⟩, rfl⟩) _ 0 p M (Nat.zero_add _) S RdK.rf rfl)
        | (have e : wordI a = 3 := by rw [wordI, if_neg c3, if_neg c14, if_pos c25]
           rw [e] at X
           exact l_word d C (i := 3) (by decide) X (fun M1 q => ⟨⟨_, M1, rfl, rfl, rfl, q⟩, rfl⟩) _ 0 p M (Nat.zero_add _) S RdK.rf rfl)
        | (have e : wordI a = 4 := by rw [wordI, if_neg c3, if_neg c14, if_neg c25]
           rw [e] at X
           exact l_word d C (i := 4) (by decide) X (fun M1 q => ⟨⟨_, M1, rfl, rfl, rfl, q⟩, rfl⟩) _ 0 p M (Nat.zero_add _) S RdK.rf rfl)
  · refine r_ldcS (pc := 6) (i := 1) X dX3_word_6 (by decide) rfl rfl ?_
    refine r_goto (pc := 8) X dX3_word_8 (tgt := 35) (by decide) ?_
    refine r_astore_n (pc := 35) X dX3_word_35 (Nat.le_of_ble_eq_true rfl) ?_
    refine r_iconst (pc := 36) (v := (nI 0)) X dX3_word_36 (by decide) ?_
    refine r_istore_n (pc := 37) X dX3_word_37 (Nat.le_of_ble_eq_true rfl) ?_
    first
      | (have e : wordI a = 1 := if_pos c3
         rw [e] at X
         exact l_word d C (i := 1) (by decide) X (fun M1 q => ⟨⟨_, M1, rfl, rfl, rfl, q⟩, rfl⟩) _ 0 p M (Nat.zero_add _) S RdK.rf rfl)
      | (have e : wordI a = 2 := by rw [wordI, if_neg c3, if_pos c14]
         rw [e] at X
         exact l_word d C (i := 2) (by decide) X (fun M1 q => ⟨⟨_, M1, rfl, rfl, rfl, q⟩, rfl⟩) _ 0 p M (Nat.zero_add _) S RdK.rf rfl)
      | (have e : wordI a = 3 := by rw [wordI, if_neg c3, if_neg c14, if_pos c25]
         rw [e] at X
         exact l_word d C (i := 3) (by decide) X (fun M1 q => ⟨⟨_, M1, rfl, rfl, rfl, q⟩, rfl⟩) _ 0 p M (Nat.zero_add _) S RdK.rf rfl)
      | (have e : wordI a = 4 := by rw [wordI, if_neg c3, if_neg c14, if_neg c25]
         rw [e] at X
         exact l_word d C (i := 4) (by decide) X (fun M1 q => ⟨⟨_, M1, rfl, rfl, rfl, q⟩, rfl⟩) _ 0 p M (Nat.zero_add _) S RdK.rf rfl)
