/-! the reference goes through its text -/
abbrev GT : Type := Bool × Nat × List CLS
def gtA (pre : List CLS) (r : GT) : GT := (r.1, r.2.1, pre ++ r.2.2)
def gtF (T : TX) : Nat → Nat → GT
  | 0, p => ((clM T p).1 && decide ((clM T p).2.1 = T.1), (clM T p).2.1, [(clM T p).2.2])
  | k + 1, p => if (clM T p).1 = true then (if (clM T p).2.1 = T.1 then (true, (clM T p).2.1, [(clM T p).2.2]) else if aheadN T (clM T p).2.1 = 59 then gtA [(clM T p).2.2] (gtF T k ((clM T p).2.1 + 1)) else (false, (clM T p).2.1, [(clM T p).2.2])) else (false, (clM T p).2.1, [(clM T p).2.2])
def GtR (T : TX) (out : List Nat) (fc : FC) (R : CR) (G : GT) : Prop := R.2.1 = G.2.1 ∧ (R.1 && decide (R.2.1 = T.1)) = G.1 ∧ (G.1 = true → R.2.2.1 = out ++ flat G.2.2 ∧ R.2.2.2 = fcs G.2.2 fc ∧ ∀ c, c ∈ G.2.2 → OkC c)
theorem flat_1 {c : CLS} : flat [c] = flat1 c := by simp [flat]
theorem GtR.one {T : TX} {out : List Nat} {fc : FC} {r : CR} {c : MC} (e1 : r.1 = c.1) (e2 : r.2.1 = c.2.1) (e3 : c.1 = true → r.2.2.1 = out ++ flat1 c.2.2 ∧ r.2.2.2 = fc1 c.2.2 fc ∧ OkC c.2.2) : GtR T out fc r (c.1 && decide (c.2.1 = T.1), c.2.1, [c.2.2]) := by
  refine ⟨e2, by rw [e1, e2], fun z => ?_⟩
  have z1 : c.1 = true := (Bool.and_eq_true _ _ ▸ z : c.1 = true ∧ _).1
  obtain ⟨a, b, k⟩ := e3 z1
  refine ⟨by rw [a, flat_1], b, fun x hx => ?_⟩
  rw [List.mem_singleton.mp hx]
  exact k
theorem gt_loop {T : TX} : ∀ (k p : Nat) (out : List Nat) (fc : FC), GtR T out fc (loopF T k (clauseF T p out fc)) (gtF T k p) := by
  intro k
  induction k with
  | zero =>
    intro p out fc
    obtain ⟨e1, e2, e3⟩ := cl_m (T := T) (p := p) (out := out) (fc := fc)
    exact GtR.one e1 e2 e3
  | succ k ih =>
    intro p out fc
    obtain ⟨e1, e2, e3⟩ := cl_m (T := T) (p := p) (out := out) (fc := fc)
    generalize clauseF T p out fc = r at e1 e2 e3 ⊢
    unfold loopF gtF
    by_cases c1 : (clM T p).1 = true
    · rw [if_pos c1, if_pos (e1.trans c1)]
      by_cases c2 : (clM T p).2.1 = T.1
      · have e59 : ¬ aheadN T r.2.1 = 59 := by
          rw [e2, c2]
          unfold aheadN
          rw [if_neg (Nat.lt_irrefl _)]
          omega
        rw [if_pos c2, if_neg e59]
        have q := GtR.one (T := T) e1 e2 e3
        rw [c1, decide_eq_true c2] at q
        exact q
      · by_cases c3 : aheadN T (clM T p).2.1 = 59
        · rw [if_neg c2, if_pos c3, if_pos (by rw [e2]; exact c3)]
          obtain ⟨i1, i2, i3⟩ := ih ((clM T p).2.1 + 1) r.2.2.1 r.2.2.2
          rw [e2]
          refine ⟨i1, i2, fun z => ?_⟩
          obtain ⟨j1, j2, j3⟩ := i3 z
          obtain ⟨a, b, k9⟩ := e3 c1
          refine ⟨?_, by rw [j2, b]; rfl, fun x hx => ?_⟩
          · rw [j1, a]
            show _ = out ++ flat ([(clM T p).2.2] ++ _)
            simp [flat, List.append_assoc]
          · rcases List.mem_cons.mp hx with e | e
            · rw [e]; exact k9
            · exact j3 x e
        · rw [if_neg c2, if_neg c3, if_neg (by rw [e2]; exact c3)]
          refine ⟨e2, ?_, fun z => absurd (show false = true from z) (by decide)⟩
          show (r.1 && decide (r.2.1 = T.1)) = false
          rw [e2, decide_eq_false c2, Bool.and_false]
    · rw [if_neg c1, if_neg (by rw [e1]; exact c1)]
      refine ⟨e2, ?_, fun z => absurd (show false = true from z) (by decide)⟩
      show (r.1 && decide (r.2.1 = T.1)) = false
      rw [e1, Bool.eq_false_iff.mpr c1, Bool.false_and]
theorem cl_g {T : TX} {p : Nat} (hc : (clM T p).1 = true) : (clM T p).2.2.2.2.length + p + 1 ≤ (clM T p).2.1 := by
  unfold clM at hc ⊢
  have wo := (word_out (T := T) (wN (wordI (aheadI T p))) p []).2
  generalize wordF T (wN (wordI (aheadI T p))) p [] = r at hc wo ⊢
  generalize wordI (aheadI T p) = i at hc ⊢
  unfold clM0 at hc ⊢
  by_cases c1 : r.1 = true
  · rw [if_pos c1] at hc ⊢
    have np := (num_p (T := T) (p := r.2.1)).1
    generalize numF T r.2.1 = q at hc np ⊢
    unfold clM1 at hc ⊢
    by_cases c2 : q.1 = true
    · have n9 := np c2
      rw [if_pos c2] at hc ⊢
      by_cases i3 : 3 ≤ i
      · rw [if_pos i3]
        show 0 + p + 1 ≤ q.2.1
        omega
      · rw [if_neg i3] at hc ⊢
        unfold clM2 at hc ⊢
        by_cases c3 : (takeF T 32 q.2.1 []).1 = true
        · rw [if_pos c3] at hc ⊢
          have t9 := (tk_t c3).2
          rw [t9] at hc ⊢
          have g9 := grow_expr (T := T) (grow_fac (T := T) 4) (q.2.1 + 1) []
          show (exprF T (factorF T 4) (q.2.1 + 1) []).2.2.length + p + 1 ≤ (exprF T (factorF T 4) (q.2.1 + 1) []).2.1
          have g8 : (exprF T (factorF T 4) (q.2.1 + 1) []).2.2.length + (q.2.1 + 1) ≤ 0 + (exprF T (factorF T 4) (q.2.1 + 1) []).2.1 := g9
          omega
        · rw [if_neg c3] at hc
          exact absurd (show false = true from hc) (by decide)
    · rw [if_neg c2] at hc
      exact absurd (show false = true from hc) (by decide)
  · rw [if_neg c1] at hc
    exact absurd (show false = true from hc) (by decide)
theorem flat1_g {c : CLS} : (flat1 c).length ≤ c.2.2.length + 1 := by
  unfold flat1
  split
  · rw [List.length_append]; exact Nat.le_refl _
  · split
    · rw [List.length_append]; exact Nat.le_refl _
    · exact Nat.zero_le _
theorem gt_g {T : TX} : ∀ (k p : Nat), (gtF T k p).1 = true → (flat (gtF T k p).2.2).length + p ≤ (gtF T k p).2.1 := by
  intro k
  induction k with
  | zero =>
    intro p z
    have z : ((clM T p).1 && decide ((clM T p).2.1 = T.1)) = true := z
    have z1 : (clM T p).1 = true := (Bool.and_eq_true _ _ ▸ z : (clM T p).1 = true ∧ _).1
    show (flat [(clM T p).2.2]).length + p ≤ (clM T p).2.1
    rw [flat_1]
    have a1 := cl_g z1
    have a2 := flat1_g (c := (clM T p).2.2)
    omega
  | succ k ih =>
    intro p z
    unfold gtF at z ⊢
    by_cases c1 : (clM T p).1 = true
    · rw [if_pos c1] at z ⊢
      have a1 := cl_g c1
      have a2 := flat1_g (c := (clM T p).2.2)
      by_cases c2 : (clM T p).2.1 = T.1
      · rw [if_pos c2] at z ⊢
        show (flat [(clM T p).2.2]).length + p ≤ (clM T p).2.1
        rw [flat_1]
        omega
      · rw [if_neg c2] at z ⊢
        by_cases c3 : aheadN T (clM T p).2.1 = 59
        · rw [if_pos c3] at z ⊢
          have a3 := ih _ z
          show (flat ([(clM T p).2.2] ++ (gtF T k ((clM T p).2.1 + 1)).2.2)).length + p ≤ (gtF T k ((clM T p).2.1 + 1)).2.1
          have a4 : flat ([(clM T p).2.2] ++ (gtF T k ((clM T p).2.1 + 1)).2.2) = flat1 (clM T p).2.2 ++ flat (gtF T k ((clM T p).2.1 + 1)).2.2 := by simp [flat]
          rw [a4, List.length_append]
          omega
        · rw [if_neg c3] at z
          exact absurd (show false = true from z) (by decide)
    · rw [if_neg c1] at z
      exact absurd (show false = true from z) (by decide)
theorem gt_len {T : TX} : ∀ (k p : Nat), (gtF T k p).2.2.length ≤ k + 1 := by
  intro k
  induction k with
  | zero => intro p; exact Nat.le_refl _
  | succ k ih =>
    intro p
    unfold gtF
    split
    · split
      · exact Nat.le_add_left _ _
      · split
        · show (gtF T k ((clM T p).2.1 + 1)).2.2.length + 1 ≤ k + 1 + 1
          exact Nat.succ_le_succ (ih _)
        · exact Nat.le_add_left _ _
    · exact Nat.le_add_left _ _
theorem gt_comp {T : TX} : GtR T [] (12, 5) (compF T) (gtF T 9 0) := gt_loop 9 0 [] (12, 5)
theorem gt_stand {T : TX} : standF T = (gtF T 9 0).1 := gt_comp.2.1
theorem gt_ev {T : TX} (h : standF T = true) : evOf T = evL (gtF T 9 0).2.2 ∧ (∀ c, c ∈ (gtF T 9 0).2.2 → OkC c) ∧ (compF T).2.2.1.length ≤ 100 ∨ 100 < T.1 := by
  have e := gt_comp (T := T)
  have g := gt_g (T := T) 9 0 (gt_stand.symm.trans h)
  obtain ⟨e1, e2, e3⟩ := e
  obtain ⟨a, b, c⟩ := e3 (gt_stand.symm.trans h)
  rw [List.nil_append] at a
  have s2 := (stand_1 h).2
  by_cases q : 100 < T.1
  · exact Or.inr q
  · refine Or.inl ⟨?_, c, by rw [a]; omega⟩
    unfold evOf evL
    rw [a, b]
/-! the call -/
def ClS (M : Mem) (c : Nat) (x : CLS) (s : Nat) : Prop := M 89 c = nI x.1 ∧ M 90 c = nI x.2.1 ∧ (x.1 ≤ 1 → ∃ a, a + x.2.2.length ≤ s ∧ M 91 c = nI a ∧ M 92 c = nI (a + x.2.2.length) ∧ ∀ i, i < x.2.2.length → M 93 (a + i) = trF (x.2.2.getD i 0))
theorem ClS.kept {M M1 : Mem} {c s cc : Nat} {x : CLS} (a : ClS M c x s) (k : CkK s cc M M1) (h : c ≠ cc) {s1 : Nat} (hs : s ≤ s1) : ClS M1 c x s1 := by
  obtain ⟨k1, k2, k3, k4⟩ := k.2.2.2 c h
  refine ⟨k1.trans a.1, k2.trans a.2.1, fun z => ?_⟩
  obtain ⟨b, b1, b2, b3, b4⟩ := a.2.2 z
  exact ⟨b, Nat.le_trans b1 hs, k3.trans b2, k4.trans b3, fun i hi => (k.2.2.1 (b + i) (by omega)).trans (b4 i hi)⟩
/-- what stays while a text is gone through -/
def GfK (k : Nat) (M M1 : Mem) : Prop := (∀ b, b ≠ 80 → (b < 88 ∨ 94 < b) → M1 b = M b) ∧ (∀ j, j ≠ 14 → j ≠ 15 → j ≠ 24 → j ≠ 25 → j ≠ 26 → M1 80 j = M 80 j) ∧ (∀ i, i < 100 * k → M1 93 i = M 93 i) ∧ (∀ i, i < 10 * k → M1 89 i = M 89 i ∧ M1 90 i = M 90 i ∧ M1 91 i = M 91 i ∧ M1 92 i = M 92 i) ∧ ∀ i, i ≠ k → M1 88 i = M 88 i
theorem GfK.rf {k : Nat} {M : Mem} : GfK k M M := ⟨fun _ _ _ => rfl, fun _ _ _ _ _ _ => rfl, fun _ _ => rfl, fun _ _ => ⟨rfl, rfl, rfl, rfl⟩, fun _ _ => rfl⟩
theorem GfK.tr {k : Nat} {M M1 M2 : Mem} (a : GfK k M M1) (b : GfK k M1 M2) : GfK k M M2 :=
  ⟨fun q h1 h2 => (b.1 q h1 h2).trans (a.1 q h1 h2), fun j h1 h2 h3 h4 h5 => (b.2.1 j h1 h2 h3 h4 h5).trans (a.2.1 j h1 h2 h3 h4 h5), fun i hi => (b.2.2.1 i hi).trans (a.2.2.1 i hi), fun i hi => ⟨(b.2.2.2.1 i hi).1.trans (a.2.2.2.1 i hi).1, (b.2.2.2.1 i hi).2.1.trans (a.2.2.2.1 i hi).2.1, (b.2.2.2.1 i hi).2.2.1.trans (a.2.2.2.1 i hi).2.2.1, (b.2.2.2.1 i hi).2.2.2.trans (a.2.2.2.1 i hi).2.2.2⟩, fun i hi => (b.2.2.2.2 i hi).trans (a.2.2.2.2 i hi)⟩
theorem CkK.gf {s cc k : Nat} {M M1 : Mem} (a : CkK s cc M M1) (hs : 100 * k ≤ s) (hc : 10 * k ≤ cc) : GfK k M M1 :=
  ⟨fun b h1 h2 => a.1 b h1 (by omega), a.2.1, fun i hi => a.2.2.1 i (by omega), fun i hi => a.2.2.2 i (by omega), fun i _ => by rw [a.1 88 (by omega) (by omega)]⟩
theorem MtK.gf {k : Nat} {M M1 : Mem} (a : MtK M M1) : GfK k M M1 := (a.ck (s := 100 * k) (cc := 10 * k)).gf (Nat.le_refl _) (Nat.le_refl _)
theorem GfK.u88 {k : Nat} {M : Mem} {x : Int32} : GfK k M (mU M 88 (upd (M 88) k x)) :=
  ⟨fun b h1 h2 => mU_ne (by omega), fun j _ _ _ _ _ => by rw [mU_ne (by omega)], fun i _ => by rw [mU_ne (by omega)], fun i _ => by rw [mU_ne (by omega), mU_ne (by omega), mU_ne (by omega), mU_ne (by omega)]; exact ⟨rfl, rfl, rfl, rfl⟩, fun i hi => by rw [mU_eq, pk_un hi]⟩
theorem GfK.u80 {k j : Nat} {M : Mem} {x : Int32} (hj : j = 14 ∨ j = 24) : GfK k M (mU M 80 (upd (M 80) j x)) :=
  ⟨fun b h1 h2 => mU_ne h1, fun i _ _ _ _ _ => by rw [mU_eq, pk_un (by omega)], fun i _ => by rw [mU_ne (by omega)], fun i _ => by rw [mU_ne (by omega), mU_ne (by omega), mU_ne (by omega), mU_ne (by omega)]; exact ⟨rfl, rfl, rfl, rfl⟩, fun i hi => by rw [mU_ne (by omega)]⟩
theorem MtS.u88 {T : TX} {p : Nat} {M : Mem} (S : MtS T p M) {f : Nat → Int32} : MtS T p (mU M 88 f) := S.kept (by rw [mU_ne (by omega)]) (by rw [mU_ne (by omega)]) (mU_ne (by omega))
theorem ClS.u88 {M : Mem} {c s : Nat} {x : CLS} (a : ClS M c x s) {f : Nat → Int32} : ClS (mU M 88 f) c x s := by
  unfold ClS
  rw [mU_ne (by omega), mU_ne (by omega), mU_ne (by omega), mU_ne (by omega), mU_ne (by omega)]
  exact a
theorem ClS.mt {M M1 : Mem} {c s : Nat} {x : CLS} (a : ClS M c x s) (k : MtK M M1) : ClS M1 c x s := a.kept (cc := c + 1) k.ck (by omega) (Nat.le_refl _)
/-- the clauses so far -/
def ClP (M : Mem) (k : Nat) (l : List CLS) (s : Nat) : Prop := ∀ i, i < l.length → ClS M (10 * k + i) (clD l i) s
theorem ClP.add {M M1 : Mem} {k s s1 : Nat} {l : List CLS} {x : CLS} (a : ClP M k l s) (q : CkK s (10 * k + l.length) M M1) (hs : s ≤ s1) (n : ClS M1 (10 * k + l.length) x s1) : ClP M1 k (l ++ [x]) s1 := by
  intro i hi
  rw [List.length_append] at hi
  have hi : i < l.length + 1 := hi
  by_cases c : i = l.length
  · subst c
    have e : clD (l ++ [x]) l.length = x := by unfold clD; simp
    rw [e]
    exact n
  · have e : clD (l ++ [x]) i = clD l i := by
      unfold clD
      rw [List.getD_eq_getElem?_getD, List.getElem?_append_left (by omega), ← List.getD_eq_getElem?_getD]
    rw [e]
    exact (a i (by omega)).kept q (by omega) hs
def GsQx (T : TX) (k : Nat) (R : GT) (M M1 : Mem) : Prop := MtS T R.2.1 M1 ∧ GfK k M M1 ∧ (R.1 = true → M1 88 k = nI R.2.2.length ∧ ClP M1 k R.2.2 (100 * k + 100))
