/-! what was told before doesn't matter -/
def OutI (f : Nat → List Nat → PR) : Prop := ∀ p out, f p out = ((f p []).1, (f p []).2.1, out ++ (f p []).2.2)
theorem oi_test {T : TX} : OutI (testF T) := by
  intro p out
  unfold testF
  by_cases c1 : letN (aheadN T p) < 6
  · rw [if_pos c1, if_pos c1]
    by_cases c2 : 60 ≤ aheadN T (p + 1) ∧ aheadN T (p + 1) ≤ 62
    · rw [if_pos c2, if_pos c2]
      by_cases c3 : (numF T (p + 2)).1 = true
      · rw [if_pos c3, if_pos c3]; rfl
      · rw [if_neg c3, if_neg c3]; simp
    · rw [if_neg c2, if_neg c2]; simp
  · rw [if_neg c1, if_neg c1]; simp
theorem oi_take {T : TX} {k : Nat} : OutI (takeF T k) := by
  intro p out
  unfold takeF
  by_cases c : aheadN T p = k
  · rw [if_pos c, if_pos c]; simp
  · rw [if_neg c, if_neg c]; simp
theorem oi_and {T : TX} {fac : Nat → List Nat → PR} (g : OutI fac) : ∀ k, OutI (andF T fac k) := by
  intro k
  induction k with
  | zero => intro p out; simp [andF]
  | succ k ih =>
    intro p out
    unfold andF
    by_cases c : aheadN T p = 38
    · rw [if_pos c, if_pos c, g (p + 1) out]
      by_cases e : (fac (p + 1) []).1 = true
      · rw [if_pos e, if_pos e, ih _ (out ++ (fac (p + 1) []).2.2 ++ [3 * 65536 + 0 * 256 + 0]), ih _ ((fac (p + 1) []).2.2 ++ [3 * 65536 + 0 * 256 + 0])]
        simp [List.append_assoc]
      · rw [if_neg e, if_neg e]
    · rw [if_neg c, if_neg c]; simp
