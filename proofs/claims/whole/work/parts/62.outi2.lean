/-! what was told before doesn't matter: terms, expressions, factors -/
theorem oi_term {T : TX} {fac : Nat → List Nat → PR} (g : OutI fac) : OutI (termF T fac) := by
  intro p out
  unfold termF
  rw [g p out]
  by_cases e : (fac p []).1 = true
  · rw [if_pos e, if_pos e, oi_and g 99 _ (out ++ (fac p []).2.2), oi_and g 99 _ (fac p []).2.2]
    simp [List.append_assoc]
  · rw [if_neg e, if_neg e]
theorem oi_or {T : TX} {fac : Nat → List Nat → PR} (g : OutI fac) : ∀ k, OutI (orF T fac k) := by
  intro k
  induction k with
  | zero =>
    intro p out
    unfold orF
    by_cases c : aheadN T p = 124
    · rw [if_pos c, if_pos c]; simp
    · rw [if_neg c, if_neg c]; simp
  | succ k ih =>
    intro p out
    unfold orF
    by_cases c : aheadN T p = 124
    · rw [if_pos c, if_pos c, oi_term g (p + 1) out]
      by_cases e : (termF T fac (p + 1) []).1 = true
      · rw [if_pos e, if_pos e, ih _ (out ++ (termF T fac (p + 1) []).2.2 ++ [4 * 65536 + 0 * 256 + 0]), ih _ ((termF T fac (p + 1) []).2.2 ++ [4 * 65536 + 0 * 256 + 0])]
        simp [List.append_assoc]
      · rw [if_neg e, if_neg e]
    · rw [if_neg c, if_neg c]; simp
theorem oi_expr {T : TX} {fac : Nat → List Nat → PR} (g : OutI fac) : OutI (exprF T fac) := by
  intro p out
  unfold exprF
  rw [oi_term g p out]
  by_cases e : (termF T fac p []).1 = true
  · rw [if_pos e, if_pos e, oi_or g 99 _ (out ++ (termF T fac p []).2.2), oi_or g 99 _ (termF T fac p []).2.2]
    simp [List.append_assoc]
  · rw [if_neg e, if_neg e]
theorem oi_fac {T : TX} : ∀ D, OutI (factorF T D) := by
  intro D
  induction D with
  | zero =>
    intro p out
    unfold factorF
    by_cases c : aheadN T p = 33 ∨ aheadN T p = 40
    · rw [if_pos c, if_pos c]; simp
    · rw [if_neg c, if_neg c]; exact oi_test p out
  | succ D ih =>
    intro p out
    unfold factorF
    by_cases c : aheadN T p = 33
    · rw [if_pos c, if_pos c, ih (p + 1) out]
      by_cases e : (factorF T D (p + 1) []).1 = true
      · rw [if_pos e, if_pos e]
        simp [List.append_assoc]
      · rw [if_neg e, if_neg e]
    · rw [if_neg c, if_neg c]
      by_cases c2 : aheadN T p = 40
      · rw [if_pos c2, if_pos c2, oi_expr ih (p + 1) out]
        by_cases e : (exprF T (factorF T D) (p + 1) []).1 = true
        · rw [if_pos e, if_pos e, oi_take _ (out ++ (exprF T (factorF T D) (p + 1) []).2.2), oi_take _ (exprF T (factorF T D) (p + 1) []).2.2]
          simp [List.append_assoc]
        · rw [if_neg e, if_neg e]
      · rw [if_neg c2, if_neg c2]; exact oi_test p out
