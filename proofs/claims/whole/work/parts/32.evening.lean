/-! an evening begins to hold -/
def evOf (T : TX) : EV := (nI (compF T).2.2.2.1, nI (compF T).2.2.2.2, rainC (compF T).2.2.1.length (fun i => nI ((compF T).2.2.1.getD i 0)))
abbrev tx0 (σ : SG) : SG := (σ.1, σ.2.1, σ.2.2.1, (0, (sXt σ).2), σ.2.2.2.2)
abbrev evG (σ : SG) : SG := ((σ.1.1, some (sEv σ).length, σ.1.2.2), σ.2.1, sEv σ ++ [evOf (sXt σ)], (0, (sXt σ).2), σ.2.2.2.2)
def f_evening (σ : SG) : Int32 × SG := if 6 ≤ (sEv σ).length then (-4, σ) else if standF (sXt σ) then (nI (sEv σ).length, evG σ) else (-10 - nI (compF (sXt σ)).2.1, tx0 σ)
/-- the reference's cells stay, whatever is made -/
def FX (h : hp_T) (M : Mem) (g : hp_T) (M1 : Mem) : Prop := ∀ b, 80 ≤ b → b ≤ 122 → M1 b = M b ∧ h_l g b = h_l h b
def QE (f : Int32 × SG) (h : hp_T) (M : Mem) (v2 : Option Value) (h2 : hp_T) : Prop := v2 = some (.int f.1) ∧ ∃ g M1, h2 = wi g M1 ∧ CRep f.2 g M1 ∧ FX h M g M1
theorem QE.mk {f : Int32 × SG} {h g : hp_T} {M M1 : Mem} {x : Int32} {σ1 : SG} (e : f = (x, σ1)) (R : CRep σ1 g M1) (F : FX h M g M1) : QE f h M (some (.int x)) (wi g M1) := by
  subst e
  exact ⟨rfl, g, M1, rfl, R, F⟩
theorem rain_congr {n : Nat} {cs ds : Nat → Int32} (h : ∀ i, i < n → cs i = ds i) : rainC n cs = rainC n ds := by
  funext f
  have : ∀ k, k ≤ n → rloop cs f k = rloop ds f k := by
    intro k
    induction k with
    | zero => intro _; rfl
    | succ k ih =>
      intro hk
      show rstep f (cs k).toNatClampNeg (rloop cs f k) = rstep f (ds k).toNatClampNeg (rloop ds f k)
      rw [ih (by omega), h k (by omega)]
  exact congrArg Prod.snd (this n (Nat.le_refl _))
theorem CS.sR {h : hp_T} (C : CS h) {a : Nat} {f : Nat → Option Nat} (ha : 123 ≤ a) : CS (_root_.Jvm.Pilot.CLastAtPumpLaw_law_r4897_fbdc39.sR h a f) := by
  refine ⟨C.1, fun q hq => ?_⟩
  obtain ⟨k, hk, e⟩ := csR_in q hq
  have h1 : k.1 < 123 := by
    have : ∀ q ∈ csK, q.1 < 123 := by decide +kernel
    exact this k hk
  show (if q.1 = a then f else h_r h q.1) q.2.1 = _
  rw [if_neg (by omega)]
  exact C.2 q hq
/-- the codes of a text are codes -/
def okN (l : List Nat) : Prop := ∀ c, c ∈ l → ∃ s t v : Nat, s ≤ 7 ∧ t ≤ 5 ∧ v ≤ 99 ∧ c = s * 65536 + t * 256 + v
def OkF (f : Nat → List Nat → PR) : Prop := ∀ p out, okN out → okN (f p out).2.2
theorem okN_a {l : List Nat} {s t v : Nat} (h : okN l) (hs : s ≤ 7) (ht : t ≤ 5) (hv : v ≤ 99) : okN (l ++ [s * 65536 + t * 256 + v]) := by
  intro c hc
  rcases List.mem_append.mp hc with z | z
  · exact h c z
  · rw [List.mem_singleton] at z
    exact ⟨s, t, v, hs, ht, hv, z⟩
/-- a test's value -/
def tsF (f : Nat → Int32) (c : Nat) : Bool := match c / 65536 with
  | 0 => !decide (nI (c % 256) ≤ f (c / 256 % 256))
  | 1 => decide (f (c / 256 % 256) = nI (c % 256))
  | _ => !decide (f (c / 256 % 256) ≤ nI (c % 256))
/-- codes over a stack of bits, cap high at most -/
def sst (cap : Nat) (f : Nat → Int32) (c : Nat) (st : List Bool) : Option (List Bool) :=
  if c / 65536 ≤ 2 then (if st.length < cap then some (tsF f c :: st) else none)
  else if c / 65536 = 3 then (match st with
    | a :: b :: r => some ((b && a) :: r)
    | _ => none)
  else if c / 65536 = 4 then (match st with
    | a :: b :: r => some ((b || a) :: r)
    | _ => none)
  else if c / 65536 = 5 then (match st with
    | a :: r => some ((!a) :: r)
    | _ => none)
  else none
def sRun (cap : Nat) (f : Nat → Int32) : List Nat → List Bool → Option (List Bool)
  | [], st => some st
  | c :: cs, st => match sst cap f c st with
    | none => none
    | some s2 => sRun cap f cs s2
theorem sRun_app {cap : Nat} {f : Nat → Int32} {b : List Nat} : ∀ {a : List Nat} {st s2 : List Bool}, sRun cap f a st = some s2 → sRun cap f (a ++ b) st = sRun cap f b s2 := by
  intro a
  induction a with
  | nil => intro st s2 h; cases h; rfl
  | cons c a ih =>
    intro st s2 h
    show (match sst cap f c st with
      | none => none
      | some s3 => sRun cap f (a ++ b) s3) = _
    unfold sRun at h
    cases e : sst cap f c st with
    | none => rw [e] at h; cases h
    | some s3 => rw [e] at h; exact ih h
def Sem (H : Nat) (cs : List Nat) : Prop := okN cs ∧ ∀ f, ∃ v : Bool, ∀ cap st, st.length + H ≤ cap → sRun cap f cs st = some (v :: st)
theorem Sem.up {H G : Nat} {cs : List Nat} (a : Sem H cs) (h : H ≤ G) : Sem G cs := ⟨a.1, fun f => by
  obtain ⟨v, q⟩ := a.2 f
  exact ⟨v, fun cap st h2 => q cap st (by omega)⟩⟩
theorem Sem.test {s t v : Nat} (hs : s ≤ 2) (ht : t ≤ 5) (hv : v ≤ 99) : Sem 1 [s * 65536 + t * 256 + v] := by
  refine ⟨okN_a (l := []) (fun c hc => by cases hc) (by omega) ht hv, fun f => ⟨tsF f (s * 65536 + t * 256 + v), fun cap st h => ?_⟩⟩
  have e : (s * 65536 + t * 256 + v) / 65536 = s := by omega
  unfold sRun sst
  rw [e, if_pos hs, if_pos (by omega)]
  rfl
theorem okN_app {a b : List Nat} (ha : okN a) (hb : okN b) : okN (a ++ b) := fun c hc => (List.mem_append.mp hc).elim (ha c) (hb c)
theorem Sem.and {H1 H2 H : Nat} {a b : List Nat} (h1 : Sem H1 a) (h2 : Sem H2 b) (k1 : H1 ≤ H) (k2 : H2 + 1 ≤ H) : Sem H (a ++ b ++ [3 * 65536 + 0 * 256 + 0]) := by
  refine ⟨okN_a (okN_app h1.1 h2.1) (by omega) (by omega) (by omega), fun f => ?_⟩
  obtain ⟨v, q1⟩ := h1.2 f
  obtain ⟨u, q2⟩ := h2.2 f
  refine ⟨v && u, fun cap st h => ?_⟩
  have e1 := q1 cap st (by omega)
  have e2 := q2 cap (v :: st) (by show st.length + 1 + H2 ≤ cap; omega)
  rw [List.append_assoc, sRun_app e1, sRun_app e2]
  rfl
theorem Sem.or {H1 H2 H : Nat} {a b : List Nat} (h1 : Sem H1 a) (h2 : Sem H2 b) (k1 : H1 ≤ H) (k2 : H2 + 1 ≤ H) : Sem H (a ++ b ++ [4 * 65536 + 0 * 256 + 0]) := by
  refine ⟨okN_a (okN_app h1.1 h2.1) (by omega) (by omega) (by omega), fun f => ?_⟩
  obtain ⟨v, q1⟩ := h1.2 f
  obtain ⟨u, q2⟩ := h2.2 f
  refine ⟨v || u, fun cap st h => ?_⟩
  have e1 := q1 cap st (by omega)
  have e2 := q2 cap (v :: st) (by show st.length + 1 + H2 ≤ cap; omega)
  rw [List.append_assoc, sRun_app e1, sRun_app e2]
  rfl
theorem Sem.not {H : Nat} {a : List Nat} (h1 : Sem H a) : Sem H (a ++ [5 * 65536 + 0 * 256 + 0]) := by
  refine ⟨okN_a h1.1 (by omega) (by omega) (by omega), fun f => ?_⟩
  obtain ⟨v, q1⟩ := h1.2 f
  refine ⟨!v, fun cap st h => ?_⟩
  have e1 := q1 cap st (by omega)
  rw [sRun_app e1]
  rfl
def SemF (H : Nat) (f : Nat → List Nat → PR) : Prop := ∀ p out, (f p out).1 = true → ∃ cs, (f p out).2.2 = out ++ cs ∧ Sem H cs
theorem sem_test {T : TX} : SemF 1 (testF T) := by
  intro p out h
  unfold testF at h ⊢
  split at h
  · rename_i c1
    rw [if_pos c1]
    split at h
    · rename_i c2
      rw [if_pos c2]
      split at h
      · rename_i c3
        rw [if_pos c3]
        exact ⟨_, rfl, Sem.test (by omega) (by omega) (by have := num_lt (T := T) (p := p + 2); omega)⟩
      · cases h
    · cases h
  · cases h
theorem sem_and {T : TX} {fac : Nat → List Nat → PR} {H : Nat} (g : SemF H fac) : ∀ k p out c0, Sem (H + 1) c0 → (andF T fac k p (out ++ c0)).1 = true → ∃ cs, (andF T fac k p (out ++ c0)).2.2 = out ++ cs ∧ Sem (H + 1) cs := by
  intro k
  induction k with
  | zero => intro p out c0 h0 _; exact ⟨c0, rfl, h0⟩
  | succ k ih =>
    intro p out c0 h0 h
    unfold andF at h ⊢
    split at h
    · rename_i c1
      rw [if_pos c1]
      split at h
      · rename_i c2
        rw [if_pos c2]
        obtain ⟨c, e, q⟩ := g _ _ c2
        rw [e, List.append_assoc, List.append_assoc] at h ⊢
        rw [← List.append_assoc c0] at h ⊢
        exact ih _ out _ (h0.and q (Nat.le_refl _) (Nat.le_refl _)) h
      · rename_i c2
        exact absurd h c2
    · rename_i c1
      rw [if_neg c1]
      exact ⟨c0, rfl, h0⟩
theorem sem_term {T : TX} {fac : Nat → List Nat → PR} {H : Nat} (g : SemF H fac) : SemF (H + 1) (termF T fac) := by
  intro p out h
  unfold termF at h ⊢
  split at h
  · rename_i c1
    rw [if_pos c1]
    obtain ⟨c, e, q⟩ := g _ _ c1
    rw [e] at h ⊢
    exact sem_and g 99 _ out c (q.up (by omega)) h
  · rename_i c1
    exact absurd h c1
theorem sem_or {T : TX} {fac : Nat → List Nat → PR} {H : Nat} (g : SemF H fac) : ∀ k p out c0, Sem (H + 2) c0 → (orF T fac k p (out ++ c0)).1 = true → ∃ cs, (orF T fac k p (out ++ c0)).2.2 = out ++ cs ∧ Sem (H + 2) cs := by
  intro k
  induction k with
  | zero =>
    intro p out c0 h0 h
    unfold orF at h ⊢
    split at h
    · cases h
    · rename_i c1
      rw [if_neg c1]
      exact ⟨c0, rfl, h0⟩
  | succ k ih =>
    intro p out c0 h0 h
    unfold orF at h ⊢
    split at h
    · rename_i c1
      rw [if_pos c1]
      split at h
      · rename_i c2
        rw [if_pos c2]
        obtain ⟨c, e, q⟩ := sem_term g _ _ c2
        rw [e, List.append_assoc, List.append_assoc] at h ⊢
        rw [← List.append_assoc c0] at h ⊢
        exact ih _ out _ (h0.or q (Nat.le_refl _) (Nat.le_refl _)) h
      · rename_i c2
        exact absurd h c2
    · rename_i c1
      rw [if_neg c1]
      exact ⟨c0, rfl, h0⟩
theorem sem_expr {T : TX} {fac : Nat → List Nat → PR} {H : Nat} (g : SemF H fac) : SemF (H + 2) (exprF T fac) := by
  intro p out h
  unfold exprF at h ⊢
  split at h
  · rename_i c1
    rw [if_pos c1]
    obtain ⟨c, e, q⟩ := sem_term g _ _ c1
    rw [e] at h ⊢
    exact sem_or g 99 _ out c (q.up (by omega)) h
  · rename_i c1
    exact absurd h c1
theorem sem_fac {T : TX} : ∀ D, SemF (2 * D + 1) (factorF T D) := by
  intro D
  induction D with
  | zero =>
    intro p out h
    unfold factorF at h ⊢
    split at h
    · cases h
    · rename_i c1
      rw [if_neg c1]
      exact sem_test p out h
  | succ D ih =>
    intro p out h
    unfold factorF at h ⊢
    split at h
    · rename_i c1
      rw [if_pos c1]
      split at h
      · rename_i c2
        rw [if_pos c2]
        obtain ⟨c, e, q⟩ := ih _ _ c2
        refine ⟨c ++ [5 * 65536 + 0 * 256 + 0], by rw [e, List.append_assoc], q.not.up (by omega)⟩
      · rename_i c2
        exact absurd h c2
    · rename_i c1
      rw [if_neg c1]
      split at h
      · rename_i c2
        rw [if_pos c2]
        split at h
        · rename_i c3
          rw [if_pos c3]
          obtain ⟨c, e, q⟩ := sem_expr ih _ _ c3
          unfold takeF at h ⊢
          split at h
          · rename_i c4
            rw [if_pos c4]
            exact ⟨c, e, q.up (by omega)⟩
          · cases h
        · rename_i c3
          exact absurd h c3
      · rename_i c2
        rw [if_neg c2]
        obtain ⟨c, e, q⟩ := sem_test p out h
        exact ⟨c, e, q.up (by omega)⟩
/-- clauses: word (0 rain, 1 dry, 2 far, 3 cost), number, codes -/
abbrev CLS : Type := Nat × Nat × List Nat
def flat1 (c : CLS) : List Nat := if c.1 = 0 then c.2.2 ++ [6 * 65536 + 0 * 256 + c.2.1] else if c.1 = 1 then c.2.2 ++ [7 * 65536 + 0 * 256 + c.2.1] else []
def fc1 (c : CLS) (fc : FC) : FC := if c.1 = 2 then (c.2.1, fc.2) else if c.1 = 3 then (fc.1, c.2.1) else fc
def OkC (c : CLS) : Prop := c.1 ≤ 3 ∧ c.2.1 ≤ 99 ∧ (c.1 ≤ 1 → Sem 11 c.2.2)
theorem num_99 {T : TX} {p : Nat} : (numF T p).2.2 ≤ 99 := by have := num_lt (T := T) (p := p); omega
theorem wordI_4 (a : Int32) : wordI a = 1 ∨ wordI a = 2 ∨ wordI a = 3 ∨ wordI a = 4 := by
  unfold wordI
  split
  · exact Or.inl rfl
  · split
    · exact Or.inr (Or.inl rfl)
    · split
      · exact Or.inr (Or.inr (Or.inl rfl))
      · exact Or.inr (Or.inr (Or.inr rfl))
theorem cls_of {T : TX} {p : Nat} {out : List Nat} {fc : FC} (h : (clauseF T p out fc).1 = true) : ∃ c : CLS, OkC c ∧ (clauseF T p out fc).2.2.1 = out ++ flat1 c ∧ (clauseF T p out fc).2.2.2 = fc1 c fc := by
  unfold clauseF clause1 at h ⊢
  have hw := (word_out (T := T) (wN (wordI (aheadI T p))) p out).1
  generalize wordF T (wN (wordI (aheadI T p))) p out = r at h hw ⊢
  split at h
  · rename_i c1
    rw [if_pos c1]
    rw [hw] at h ⊢
    unfold clause2 at h ⊢
    split at h
    · rename_i c2
      rw [if_pos c2]
      split at h
      · rename_i c3
        rw [if_pos c3]
        exact ⟨(2, (numF T r.2.1).2.2, []), ⟨by show 2 ≤ 3; omega, num_99, fun z => absurd z (by show ¬ 2 ≤ 1; omega)⟩, (List.append_nil out).symm, rfl⟩
      · rename_i c3
        rw [if_neg c3]
        split at h
        · rename_i c4
          rw [if_pos c4]
          exact ⟨(3, (numF T r.2.1).2.2, []), ⟨by show 3 ≤ 3; omega, num_99, fun z => absurd z (by show ¬ 3 ≤ 1; omega)⟩, (List.append_nil out).symm, rfl⟩
        · rename_i c4
          rw [if_neg c4]
          unfold clause3 at h ⊢
          split at h
          · rename_i c5
            rw [if_pos c5]
            have et : (takeF T 32 (numF T r.2.1).2.1 out).2.2 = out := by
              unfold takeF
              split <;> rfl
            rw [et] at h ⊢
            unfold clause4 at h ⊢
            split at h
            · rename_i c6
              rw [if_pos c6]
              obtain ⟨c, e, q⟩ := sem_expr (sem_fac 4) _ _ c6
              by_cases c7 : wordI (aheadI T p) = 1
              · refine ⟨(0, (numF T r.2.1).2.2, c), ⟨by show 0 ≤ 3; omega, num_99, fun _ => q⟩, ?_, rfl⟩
                show (exprF T (factorF T 4) (takeF T 32 (numF T r.2.1).2.1 out).2.1 out).2.2 ++ [_] = out ++ (c ++ [6 * 65536 + 0 * 256 + (numF T r.2.1).2.2])
                rw [e, if_pos c7, List.append_assoc]
              · refine ⟨(1, (numF T r.2.1).2.2, c), ⟨by show 1 ≤ 3; omega, num_99, fun _ => q⟩, ?_, rfl⟩
                show (exprF T (factorF T 4) (takeF T 32 (numF T r.2.1).2.1 out).2.1 out).2.2 ++ [_] = out ++ (c ++ [7 * 65536 + 0 * 256 + (numF T r.2.1).2.2])
                rw [e, if_neg c7, List.append_assoc]
            · cases h
          · cases h
    · cases h
  · cases h
def flat (l : List CLS) : List Nat := l.flatMap flat1
def fcs (l : List CLS) (fc : FC) : FC := l.foldl (fun a c => fc1 c a) fc
theorem flat_s {l : List CLS} {c : CLS} : flat (l ++ [c]) = flat l ++ flat1 c := by simp [flat]
theorem fcs_s {l : List CLS} {c : CLS} {fc : FC} : fcs (l ++ [c]) fc = fc1 c (fcs l fc) := by simp [fcs]
theorem ok_flat1 {c : CLS} (h : OkC c) : okN (flat1 c) := by
  unfold flat1
  split
  · rename_i e
    exact okN_a (h.2.2 (by omega)).1 (by omega) (by omega) h.2.1
  · split
    · rename_i e
      exact okN_a (h.2.2 (by omega)).1 (by omega) (by omega) h.2.1
    · intro c hc
      cases hc
theorem fc1_99 {c : CLS} {fc : FC} (h : OkC c) (hf : fc.1 ≤ 99 ∧ fc.2 ≤ 99) : (fc1 c fc).1 ≤ 99 ∧ (fc1 c fc).2 ≤ 99 := by
  unfold fc1
  split
  · exact ⟨h.2.1, hf.2⟩
  · split
    · exact ⟨hf.1, h.2.1⟩
    · exact hf
theorem loop_ok {T : TX} : ∀ (k : Nat) (r : CR), okN r.2.2.1 → (r.2.2.2.1 ≤ 99 ∧ r.2.2.2.2 ≤ 99) → (loopF T k r).1 = true → okN (loopF T k r).2.2.1 ∧ ((loopF T k r).2.2.2.1 ≤ 99 ∧ (loopF T k r).2.2.2.2 ≤ 99) := by
  intro k
  induction k with
  | zero => intro r h1 h2 _; exact ⟨h1, h2⟩
  | succ k ih =>
    intro r h1 h2 h
    unfold loopF at h ⊢
    split at h
    · rename_i c1
      rw [if_pos c1]
      split at h
      · rename_i c2
        rw [if_pos c2]
        cases e : (clauseF T (r.2.1 + 1) r.2.2.1 r.2.2.2).1 with
        | false =>
          have : (loopF T k (clauseF T (r.2.1 + 1) r.2.2.1 r.2.2.2)).1 = false := by
            cases k with
            | zero => exact e
            | succ k =>
              unfold loopF
              rw [if_neg (nt_f e)]
              exact e
          rw [this] at h
          cases h
        | true =>
          obtain ⟨c, q1, q2, q3⟩ := cls_of e
          refine ih _ ?_ ?_ h
          · rw [q2]; exact okN_app h1 (ok_flat1 q1)
          · rw [q3]; exact fc1_99 q1 h2
      · rename_i c2
        rw [if_neg c2]
        exact ⟨h1, h2⟩
    · rename_i c1
      exact absurd h c1
theorem comp_ok {T : TX} (h : (compF T).1 = true) : okN (compF T).2.2.1 ∧ (compF T).2.2.2.1 ≤ 99 ∧ (compF T).2.2.2.2 ≤ 99 := by
  unfold compF at h ⊢
  cases e : (clauseF T 0 [] (12, 5)).1 with
  | false =>
    unfold loopF at h
    rw [if_neg (nt_f e), e] at h
    cases h
  | true =>
    obtain ⟨c, q1, q2, q3⟩ := cls_of e
    refine loop_ok 9 _ ?_ ?_ h
    · rw [q2]; exact ok_flat1 q1
    · rw [q3]; exact fc1_99 q1 ⟨by show 12 ≤ 99; omega, by show 5 ≤ 99; omega⟩
theorem okC_of {l : List Nat} (h : okN l) {g : Nat → Int32} (e : ∀ i, i < l.length → g i = nI (l.getD i 0)) : okC l.length g := by
  intro i hi
  have hm : l.getD i 0 ∈ l := by
    rw [List.getD_eq_getElem?_getD, List.getElem?_eq_getElem hi]
    exact List.getElem_mem hi
  obtain ⟨s, t, v, h1, h2, h3, h4⟩ := h _ hm
  exact ⟨s, t, v, h1, h2, h3, by rw [e i hi, h4]⟩
theorem EvsC.add {l : List EV} {h g : hp_T} {M M1 : Mem} {E : EV} (e : EvsC l h M) (k0 : M1 23 6 = nI (l.length + 1)) (kn : h_n g = h_n h + 2) (ke : ∀ k, k < l.length → EvK g M1 k (l.getD k E0)) (kE : EvK g M1 l.length E) : EvsC (l ++ [E]) g M1 := by
  refine ⟨by rw [k0, List.length_append]; rfl, by rw [kn, e.2.1, List.length_append]; show _ = 123 + 2 * (l.length + 1); omega, fun k hk => ?_⟩
  rw [List.length_append] at hk
  have hk : k < l.length + 1 := hk
  by_cases c : k = l.length
  · subst c
    rw [List.getD_eq_getElem?_getD, List.getElem?_append_right (Nat.le_refl _), Nat.sub_self]
    exact kE
  · rw [List.getD_eq_getElem?_getD, List.getElem?_append_left (by omega), ← List.getD_eq_getElem?_getD]
    exact ke k (by omega)
theorem Tc_L {M : Mem} {L L1 : LMem} (h : ∀ u, u < 6 → L1 (74 + u) = L (74 + u)) : Tc M L1 = Tc M L := by
  have e : (fun (u i : Nat) => if u < 6 ∧ i < 60 then L1 (74 + u) i else 0) = fun (u i : Nat) => if u < 6 ∧ i < 60 then L (74 + u) i else 0 := by
    funext u i
    by_cases c : u < 6 ∧ i < 60
    · rw [if_pos c, if_pos c, h u c.1]
    · rw [if_neg c, if_neg c]
  show (M 71, M 72, _) = (M 71, M 72, _)
  rw [e]
/-- what has been made: the evening's two cells -/
theorem CRep.eve {σ : SG} {h : hp_T} {M M1 : Mem} (R : CRep σ h M) (hs : standF (sXt σ) = true) (a1 : M1 (h_n h) 1 = nI (compF (sXt σ)).2.2.2.1) (a2 : M1 (h_n h) 2 = nI (compF (sXt σ)).2.2.2.2) (a3 : ∀ i, i < (compF (sXt σ)).2.2.1.length → M1 (h_n h + 1) i = nI ((compF (sXt σ)).2.2.1.getD i 0)) (h100 : (compF (sXt σ)).2.2.1.length ≤ 100) (q1 : M1 65 1 = nI 0) (k : ∀ b, b < h_n h → b ≠ 65 → b ≠ 67 → M1 b = M b) :
    CRep (evG σ) (sev (evH h (compF (sXt σ)).2.2.1.length) 25 (some (h_n h))) (mU M1 23 (upd (M1 23) 6 (nI ((sEv σ).length + 1)))) ∧ FX h M (sev (evH h (compF (sXt σ)).2.2.1.length) 25 (some (h_n h))) (mU M1 23 (upd (M1 23) 6 (nI ((sEv σ).length + 1)))) := by
  have hn : h_n h = 123 + 2 * (sEv σ).length := R.ev.2.1
  have k2 : ∀ b, b < 123 → b ≠ 23 → b ≠ 65 → b ≠ 67 → mU M1 23 (upd (M1 23) 6 (nI ((sEv σ).length + 1))) b = M b := fun b h1 h2 h3 h4 => by rw [mU_ne h2]; exact k b (by omega) h3 h4
  have k3 : ∀ b, 123 ≤ b → mU M1 23 (upd (M1 23) 6 (nI ((sEv σ).length + 1))) b = M1 b := fun b h2 => mU_ne (by omega)
  have hr : ∀ b j, b < h_n h → b ≠ 25 → h_r (sev (evH h (compF (sXt σ)).2.2.1.length) 25 (some (h_n h))) b j = h_r h b j := by
    intro b j h1 h2
    rw [sev_r h2]
    show (if b = h_n h then _ else (if b = h_n h + 1 then _ else (if b = h_n h then _ else h_r h b))) j = _
    rw [if_neg (by omega), if_neg (by omega), if_neg (by omega)]
  have C := ((R.C.nC (t := 0) (n := 1) (len := 3)).nC (t := 1) (n := (compF (sXt σ)).2.2.1.length) (len := (compF (sXt σ)).2.2.1.length)).sR (a := h_n h) (f := va_up (h_r (nC (nC h 0 1 3) 1 (compF (sXt σ)).2.2.1.length (compF (sXt σ)).2.2.1.length) (h_n h)) 0 (some (h_n h + 1))) (by omega)
  have C := C.sev (Or.inl rfl) (some (h_n h))
  have h20 : 23 ≤ h_n h := by omega
  have c1 : ck (nC h 0 1 3) (h_n h) 0 1 := ck_new h20
  have c2 : ck (nC (nC h 0 1 3) 1 (compF (sXt σ)).2.2.1.length (compF (sXt σ)).2.2.1.length) (h_n h) 0 1 := ck_nC c1
  have c3 : ck (nC (nC h 0 1 3) 1 (compF (sXt σ)).2.2.1.length (compF (sXt σ)).2.2.1.length) (h_n h + 1) 1 (compF (sXt σ)).2.2.1.length := ck_new (h := nC h 0 1 3) (by show 23 ≤ h_n h + 1; omega)
  obtain ⟨o1, o2, o3⟩ := comp_ok (stand_1 hs).1
  have s1 := R.hy.kept (M1 := mU M1 23 (upd (M1 23) 6 (nI ((sEv σ).length + 1)))) (fun q h1 h2 => k2 q (by omega) (by omega) (by omega) (by omega)) (fun q h1 h2 => k2 q (by omega) (by omega) (by omega) (by omega)) (by omega) (by omega)
  have i1 := R.kI (g := sev (evH h (compF (sXt σ)).2.2.1.length) 25 (some (h_n h))) (M1 := mU M1 23 (upd (M1 23) 6 (nI ((sEv σ).length + 1)))) (hr 42 11 (by omega) (by omega)) (by rw [mU_eq]; show M1 23 2 = _; rw [k 23 (by omega) (by omega) (by omega)]) (fun q h1 h2 => k2 q (by omega) (by omega) (by omega) (by omega)) (fun q h1 h2 => k2 q (by omega) (by omega) (by omega) (by omega))
  have v : Sv (mU M1 23 (upd (M1 23) 6 (nI ((sEv σ).length + 1)))) 25 = Sv M 25 := Sv_same fun f hf => k2 (25 + f) (by omega) (by omega) (by omega) (by omega)
  refine ⟨⟨C, ⟨v.trans R.v, ?_, R.se.kept fun q h1 h2 => k2 q (by omega) (by omega) (by omega) (by omega), R.ga.kept fun q h1 h2 => k2 q (by omega) (by omega) (by omega) (by omega), R.bo.kept fun q h1 h2 => k2 q (by omega) (by omega) (by omega) (by omega)⟩, s1, i1.1, i1.2, R.kZ (fun q h1 h2 => k2 q (by omega) (by omega) (by omega) (by omega)), ?_, ?_, R.kB (by rw [k2 68 (by omega) (by omega) (by omega) (by omega)]) (k2 69 (by omega) (by omega) (by omega) (by omega)), (Tc_L fun u hu => by show (if 74 + u = h_n h + 1 then _ else (if 74 + u = h_n h then _ else h_l h (74 + u))) = _; rw [if_neg (by omega), if_neg (by omega)]).trans (R.kP (k2 71 (by omega) (by omega) (by omega) (by omega)) (k2 72 (by omega) (by omega) (by omega) (by omega)))⟩, fun b h1 h2 => ⟨k2 b (by omega) (by omega) (by omega) (by omega), ?_⟩⟩
  · rw [sev_11, hn]
    rfl
  · refine R.ev.add (by rw [mU_eq]; rfl) rfl (fun j hj => ?_) ?_
    · obtain ⟨b1, b2, n, b3, b4, b5, b6⟩ := R.ev.2.2 j hj
      refine ⟨ck_nC (ck_nC b1), (hr _ _ (by omega) (by omega)).trans b2, n, ck_nC (ck_nC b3), b4, ?_, ?_⟩
      · rw [k3 _ (by omega), k _ (by omega) (by omega) (by omega)]; exact b5
      · rw [k3 _ (by omega), k3 _ (by omega), k _ (by omega) (by omega) (by omega), k _ (by omega) (by omega) (by omega)]; exact b6
    · rw [hn] at a1 a2 a3 c2 c3 ⊢
      rw [show 123 + 2 * (sEv σ).length + 1 = 124 + 2 * (sEv σ).length by omega] at a3 c3
      refine ⟨c2, ?_, _, c3, h100, ?_, ?_⟩
      · rw [sev_r (by omega)]
        show (if 123 + 2 * (sEv σ).length = h_n h then va_up (h_r (nC (nC h 0 1 3) 1 (compF (sXt σ)).2.2.1.length (compF (sXt σ)).2.2.1.length) (h_n h)) 0 (some (h_n h + 1)) else h_r (nC (nC h 0 1 3) 1 (compF (sXt σ)).2.2.1.length (compF (sXt σ)).2.2.1.length) (123 + 2 * (sEv σ).length)) 0 = _
        rw [if_pos hn.symm]
        show some (h_n h + 1) = _
        rw [hn]
        exact congrArg some (by omega)
      · rw [k3 _ (by omega)]
        exact okC_of o1 a3
      · rw [k3 _ (by omega), k3 _ (by omega), a1, a2, rain_congr a3]
        rfl
  · refine ⟨?_, Nat.zero_le _, fun i hi => absurd hi (Nat.not_lt_zero _)⟩
    rw [mU_ne (by omega)]
    exact q1
  · show (if b = h_n h + 1 then _ else (if b = h_n h then _ else h_l h b)) = _
    rw [if_neg (by omega), if_neg (by omega)]
set_option maxRecDepth 10000 in
set_option maxHeartbeats 4000000 in
theorem e_fault : ∀ (d : Nat) {h : hp_T} {M : Mem} (C : CS h), Ep d nX3_fault [.ref 65] (wi h M) (.int (M 65 2)) := by
  intro d h M C
  refine Ex.of mm_X3_fault (Nat.le_of_ble_eq_true rfl) fun w κ X hk hnm => ?_
  refine r_aload_n (pc := 0) X dX3_fault_0 rfl ?_
  refine r_getiW (pc := 1) X dX3_fault_1 tf_3_23 rfl (kc_65 C) rfl ?_
  refine r_iret (pc := 4) X dX3_fault_4 rfl rfl ?_
  exact ⟨⟨rfl, rfl⟩, rfl⟩
theorem CRep.setTy {σ : SG} {h : hp_T} {M M1 : Mem} (R : CRep σ h M) {T : TX} (k : ∀ b, b < h_n h → b ≠ 65 → b ≠ 67 → M1 b = M b) (t : TxS T M1) : CRep (σ.1, σ.2.1, σ.2.2.1, T, σ.2.2.2.2) h M1 ∧ FR h M h M1 := by
  have hn : h_n h = 123 + 2 * (sEv σ).length := R.ev.2.1
  have k2 : ∀ b, b < 123 → b ≠ 65 → b ≠ 67 → M1 b = M b := fun b h1 h2 h3 => k b (by omega) h2 h3
  have s1 := R.kS (g := h) (M1 := M1) rfl (fun q h1 h2 => k2 q (by omega) (by omega) (by omega)) (fun q h1 h2 => k2 q (by omega) (by omega) (by omega))
  have i1 := R.kI (g := h) (M1 := M1) rfl (by rw [k2 23 (by omega) (by omega) (by omega)]) (fun q h1 h2 => k2 q (by omega) (by omega) (by omega)) (fun q h1 h2 => k2 q (by omega) (by omega) (by omega))
  exact ⟨⟨R.C, s1.1, s1.2, i1.1, i1.2, R.kZ (fun q h1 h2 => k2 q (by omega) (by omega) (by omega)), ⟨by rw [k2 23 (by omega) (by omega) (by omega)]; exact R.ev.1, R.ev.2.1, fun j (hj : j < (sEv σ).length) => (R.ev.2.2 j hj).kept (k _ (by omega) (by omega) (by omega)) (k _ (by omega) (by omega) (by omega)) rfl (Nat.le_refl _) rfl⟩, t, R.kB (by rw [k2 68 (by omega) (by omega) (by omega)]) (k2 69 (by omega) (by omega) (by omega)), R.kP (k2 71 (by omega) (by omega) (by omega)) (k2 72 (by omega) (by omega) (by omega))⟩, FR.m fun b h1 h2 => k2 b (by omega) (by omega) (by omega)⟩
set_option maxRecDepth 10000 in
set_option maxHeartbeats 4000000 in
theorem k_eve_full : ∀ (d : Nat) {σ : SG} {h : hp_T} {M : Mem} {B0 : Nat} (R : CRep σ h M) (O : OK B0 σ) (h6 : 6 ≤ (sEv σ).length), Ex (d + 30) nX7_evening [.ref 23] (wi h M) 0 0 (QE (f_evening σ) h M) := by
  intro d σ h M B0 R O h6
  have C := R.C
  have h7 := O.2.2.1.1
  refine Ex.of mm_X7_evening (Nat.le_of_ble_eq_true rfl) fun w κ X hk hnm => ?_
  refine r_aload_n (pc := 0) X dX7_evening_0 rfl ?_
  refine r_getiW (pc := 1) X dX7_evening_1 tf_7_114 rfl (kc_23 C) R.ev.1 ?_
  refine r_bipush (pc := 4) (v := (nI 6)) X dX7_evening_4 (by decide) ?_
  refine r_icmp_ltN (pc := 6) X dX7_evening_6 (tgt := 12) (by decide) (by omega) (by omega) (fun c6 => ?_) (fun c6 => ?_)
  · exact absurd c6 (by omega)
  · refine r_bipush (pc := 9) (v := (-4)) X dX7_evening_9 (by decide) ?_
    refine r_iret (pc := 11) X dX7_evening_11 rfl rfl ?_
    exact ⟨QE.mk (σ1 := σ) (by rw [f_evening, if_pos h6]) R (fun _ _ _ => ⟨rfl, rfl⟩), rfl⟩
set_option maxRecDepth 10000 in
set_option maxHeartbeats 4000000 in
theorem k_eve_no : ∀ (d : Nat) {σ : SG} {h : hp_T} {M : Mem} {B0 : Nat} (R : CRep σ h M) (O : OK B0 σ) (h6 : ¬ 6 ≤ (sEv σ).length) (hs : standF (sXt σ) = false), Ex (d + 30) nX7_evening [.ref 23] (wi h M) 0 0 (QE (f_evening σ) h M) := by
  intro d σ h M B0 R O h6 hs
  have C := R.C
  have he := e_compile (d + 10) C R.tx
  rw [if_neg (nt_f hs), if_neg (nt_f hs)] at he
  refine Ex.of mm_X7_evening (Nat.le_of_ble_eq_true rfl) fun w κ X hk hnm => ?_
  refine r_aload_n (pc := 0) X dX7_evening_0 rfl ?_
  refine r_getiW (pc := 1) X dX7_evening_1 tf_7_114 rfl (kc_23 C) R.ev.1 ?_
  refine r_bipush (pc := 4) (v := (nI 6)) X dX7_evening_4 (by decide) ?_
  refine r_icmp_ltN (pc := 6) X dX7_evening_6 (tgt := 12) (by decide) (by omega) (by omega) (fun c6 => ?_) (fun c6 => ?_)
  · refine r_aload_n (pc := 12) X dX7_evening_12 rfl ?_
    refine r_getr (pc := 13) X dX7_evening_13 tf_7_35 rfl (kc_23 C) (rc_23_5 C) ?_
    refine r_c0_0M (pc := 16) X rfl dX7_evening_16 tc_7_117 mm_X3_compile (kc_65 C) rfl rfl (he) (by rw [hk]; exact ⟨Nat.le_refl _, Nat.le_refl _⟩) (Nat.le_of_ble_eq_true rfl) (fun v16 g16 q16 u16 => ?_)
    obtain ⟨M1, -, q2, q3, q4, q5⟩ := q16
    obtain ⟨rfl, rfl⟩ := q2 hs
    show GG w κ _ _ (Value.null :: _) _
    refine r_astore_nN (pc := 19) X dX7_evening_19 (Nat.le_of_ble_eq_true rfl) ?_
    refine r_aload_nN (pc := 20) X dX7_evening_20 rfl ?_
    refine r_ifnonnullN (pc := 21) X dX7_evening_21 ?_
    refine r_bipush (pc := 24) (v := (-10)) X dX7_evening_24 (by decide) ?_
    refine r_aload_n (pc := 26) X dX7_evening_26 rfl ?_
    refine r_getr (pc := 27) X dX7_evening_27 tf_7_35 rfl (kc_23 C) (rc_23_5 C) ?_
    refine r_c0_0P (pc := 30) X rfl dX7_evening_30 tc_7_121 mm_X3_fault (kc_65 C) rfl rfl (e_fault (d + 29) C) (Nat.le_of_ble_eq_true rfl) ?_
    refine r_top q4 ?_
    refine r_isub (pc := 33) X dX7_evening_33 ?_
    refine r_iret (pc := 34) X dX7_evening_34 rfl rfl ?_
    have q9 := R.setTy (T := (0, (sXt σ).2)) (M1 := M1) q5 ⟨q3, Nat.zero_le _, fun i hi => absurd hi (Nat.not_lt_zero _)⟩
    exact ⟨QE.mk (by rw [f_evening, if_neg h6, if_neg (nt_f hs)]) q9.1 q9.2.2, rfl⟩
  · exact absurd c6 (by omega)
set_option maxRecDepth 10000 in
set_option maxHeartbeats 4000000 in
theorem k_eve_ok : ∀ (d : Nat) {σ : SG} {h : hp_T} {M : Mem} {B0 : Nat} (R : CRep σ h M) (O : OK B0 σ) (h6 : ¬ 6 ≤ (sEv σ).length) (hs : standF (sXt σ) = true) (h100 : (compF (sXt σ)).2.2.1.length ≤ 100), Ex (d + 30) nX7_evening [.ref 23] (wi h M) 2 (3 + (compF (sXt σ)).2.2.1.length) (QE (f_evening σ) h M) := by
  intro d σ h M B0 R O h6 hs h100
  have C := R.C
  have he := e_compile (d + 10) C R.tx
  rw [if_pos hs, if_pos hs] at he
  refine Ex.of mm_X7_evening (Nat.le_of_ble_eq_true rfl) fun w κ X hk hnm => ?_
  refine r_aload_n (pc := 0) X dX7_evening_0 rfl ?_
  refine r_getiW (pc := 1) X dX7_evening_1 tf_7_114 rfl (kc_23 C) R.ev.1 ?_
  refine r_bipush (pc := 4) (v := (nI 6)) X dX7_evening_4 (by decide) ?_
  refine r_icmp_ltN (pc := 6) X dX7_evening_6 (tgt := 12) (by decide) (by omega) (by omega) (fun c6 => ?_) (fun c6 => ?_)
  · refine r_aload_n (pc := 12) X dX7_evening_12 rfl ?_
    refine r_getr (pc := 13) X dX7_evening_13 tf_7_35 rfl (kc_23 C) (rc_23_5 C) ?_
    refine r_c0_0M (pc := 16) X rfl dX7_evening_16 tc_7_117 mm_X3_compile (kc_65 C) rfl rfl (he) (by rw [hk]; exact ⟨Nat.le_refl _, Nat.le_refl _⟩) (Nat.le_of_ble_eq_true rfl) (fun v16 g16 q16 u16 => ?_)
    obtain ⟨M1, q1, -, q3, q4, q5⟩ := q16
    obtain ⟨rfl, rfl, a1, a2, a3⟩ := q1 hs
    have hn : h_n h = 123 + 2 * (sEv σ).length := R.ev.2.1
    obtain ⟨R9, F9⟩ := R.eve hs a1 a2 a3 h100 q3 q5
    have C : CS (evH h (compF (sXt σ)).2.2.1.length) := ((C.nC (t := 0) (n := 1) (len := 3)).nC (t := 1) (n := (compF (sXt σ)).2.2.1.length) (len := (compF (sXt σ)).2.2.1.length)).sR (by omega)
    have ke : M1 23 6 = nI (sEv σ).length := by rw [q5 23 (by omega) (by omega) (by omega)]; exact R.ev.1
    show GG w κ _ _ (Value.ref (h_n h) :: _) _
    refine r_astore_n (pc := 19) X dX7_evening_19 (Nat.le_of_ble_eq_true rfl) ?_
    refine r_aload_n (pc := 20) X dX7_evening_20 rfl ?_
    refine r_ifnonnull (pc := 21) X dX7_evening_21 (tgt := 35) (by decide) (show 23 ≤ h_n h by have := R.ev.2.1; omega) ?_
    refine r_aload_n (pc := 35) X dX7_evening_35 rfl ?_
    refine r_getr (pc := 36) X dX7_evening_36 tf_7_25 rfl (kc_23 C) (rc_23_3 C) ?_
    refine r_aload_n (pc := 39) X dX7_evening_39 rfl ?_
    refine r_putrW (pc := 40) (r := (some (h_n h))) X dX7_evening_40 tf_7_125 rfl (Or.inl rfl) (kc_25 C) ?_
    have C := C.sev (Or.inl rfl) (some (h_n h))
    show GG w κ _ _ _ (wi (sev (evH h (compF (sXt σ)).2.2.1.length) 25 (some (h_n h))) M1)
    refine r_aload_n (pc := 43) X dX7_evening_43 rfl ?_
    refine r_dup (pc := 44) X dX7_evening_44 rfl ?_
    refine r_getiW (pc := 45) X dX7_evening_45 tf_7_114 rfl (kc_23 C) ke ?_
    refine r_iconst (pc := 48) (v := (nI 1)) X dX7_evening_48 (by decide) ?_
    refine r_iadd (pc := 49) X dX7_evening_49 ?_
    refine r_top (nI_add _ 1) ?_
    refine r_putiW (pc := 50) X dX7_evening_50 tf_7_114 rfl (Or.inl rfl) (kc_23 C) ⟨rfl, rfl⟩ ?_
    refine r_aload_n (pc := 53) X dX7_evening_53 rfl ?_
    refine r_getiW (pc := 54) X dX7_evening_54 tf_7_114 rfl (kc_23 C) (show mU M1 23 (upd (M1 23) 6 (nI ((sEv σ).length + 1))) 23 6 = nI ((sEv σ).length + 1) by rw [mU_eq]; rfl) ?_
    refine r_iconst (pc := 57) (v := (nI 1)) X dX7_evening_57 (by decide) ?_
    refine r_isub (pc := 58) X dX7_evening_58 ?_
    refine r_top (nI_subn (a := (sEv σ).length + 1) (b := 1) (by omega)) ?_
    refine r_iret (pc := 59) X dX7_evening_59 rfl rfl ?_
    exact ⟨QE.mk (by rw [f_evening, if_neg h6, if_pos hs]; rfl) R9 F9, (by rw [show (wi _ _ : hp_T).1 = _ from rfl]; exact Prod.ext (by rfl) (Nat.add_assoc _ _ _))⟩
  · exact absurd c6 (by omega)
