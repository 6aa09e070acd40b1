/-! the reference's clause is the class's clause -/
theorem oi_word {T : TX} : ∀ (l : List Nat) (p : Nat) (out : List Nat), wordF T l p out = ((wordF T l p []).1, (wordF T l p []).2.1, out) := by
  intro l
  induction l with
  | nil => intro p out; rfl
  | cons c cs ih =>
    intro p out
    unfold wordF
    by_cases e : aheadN T p = c
    · rw [if_pos e, if_pos e]; exact ih (p + 1) out
    · rw [if_neg e, if_neg e]
def ClR (T : TX) (out : List Nat) (fc : FC) (a : CR) (b : MC) : Prop := a.1 = b.1 ∧ a.2.1 = b.2.1 ∧ (b.1 = true → a.2.2.1 = out ++ flat1 b.2.2 ∧ a.2.2.2 = fc1 b.2.2 fc ∧ OkC b.2.2)
theorem ClR.f {T : TX} {out o2 : List Nat} {fc f2 : FC} {q : Nat} {x : CLS} : ClR T out fc (false, q, o2, f2) (false, q, x) := ⟨rfl, rfl, fun z => absurd (show false = true from z) (by decide)⟩
theorem cl_m {T : TX} {p : Nat} {out : List Nat} {fc : FC} : ClR T out fc (clauseF T p out fc) (clM T p) := by
  unfold clauseF clM
  have wb := wI_b (aheadI T p)
  generalize wordI (aheadI T p) = i at wb
  rw [oi_word (wN i) p out]
  unfold clause1 clM0
  by_cases c1 : (wordF T (wN i) p []).1 = true
  · rw [if_pos c1, if_pos c1]
    show ClR T out fc (clause2 T i (numF T (wordF T (wN i) p []).2.1) out fc) (clM1 T i (numF T (wordF T (wN i) p []).2.1))
    have v9 := num_99 (T := T) (p := (wordF T (wN i) p []).2.1)
    generalize numF T (wordF T (wN i) p []).2.1 = q at v9
    unfold clause2 clM1
    by_cases c2 : q.1 = true
    · rw [if_pos c2, if_pos c2]
      by_cases i3 : i = 3
      · subst i3
        rw [if_pos rfl, if_pos (by omega)]
        exact ⟨rfl, rfl, fun _ => ⟨(List.append_nil _).symm, rfl, by show 3 - 1 ≤ 3; omega, v9, fun z => absurd (show 3 - 1 ≤ 1 from z) (by omega)⟩⟩
      · by_cases i4 : i = 4
        · subst i4
          rw [if_neg i3, if_pos rfl, if_pos (by omega)]
          exact ⟨rfl, rfl, fun _ => ⟨(List.append_nil _).symm, rfl, by show 4 - 1 ≤ 3; omega, v9, fun z => absurd (show 4 - 1 ≤ 1 from z) (by omega)⟩⟩
        · rw [if_neg i3, if_neg i4, if_neg (show ¬ 3 ≤ i by omega), oi_take q.2.1 out]
          unfold clause3 clM2
          by_cases c3 : (takeF T 32 q.2.1 []).1 = true
          · rw [if_pos c3, if_pos c3]
            have t0 : (takeF T 32 q.2.1 []).2.2 = [] := by unfold takeF; split <;> rfl
            rw [t0, List.append_nil]
            show ClR T out fc (clause4 _ _ (exprF T (factorF T 4) (takeF T 32 q.2.1 []).2.1 out) fc) _
            rw [oi_expr (oi_fac 4) _ out]
            unfold clause4 clM3
            by_cases c4 : (exprF T (factorF T 4) (takeF T 32 q.2.1 []).2.1 []).1 = true
            · rw [if_pos c4]
              obtain ⟨cs, e1, e2⟩ := sem_expr (sem_fac 4) _ _ c4
              rw [List.nil_append] at e1
              have i12 : i = 1 ∨ i = 2 := by omega
              refine ⟨c4.symm, rfl, fun _ => ⟨?_, ?_, ?_⟩⟩
              · rcases i12 with e | e <;> subst e <;> simp [flat1, List.append_assoc]
              · rcases i12 with e | e <;> subst e <;> rfl
              · refine ⟨by show i - 1 ≤ 3; omega, v9, fun _ => ?_⟩
                show Sem 11 (exprF T (factorF T 4) (takeF T 32 q.2.1 []).2.1 []).2.2
                rw [e1]
                exact e2
            · rw [if_neg c4]
              exact ⟨(Bool.eq_false_iff.mpr c4).symm, rfl, fun z => absurd z c4⟩
          · rw [if_neg c3, if_neg c3]
            exact ClR.f
    · rw [if_neg c2, if_neg c2]
      exact ClR.f
  · rw [if_neg c1, if_neg c1]
    exact ClR.f
