/-! what holds of a street stays -/
theorem vU_ne {V : VT} {f i g j : Nat} {x : Int32} (h : ¬ (g = f ∧ j = i)) : vU V f i x g j = V g j := if_neg h
theorem vU_eq {V : VT} {f i : Nat} {x : Int32} : vU V f i x f i = x := if_pos ⟨rfl, rfl⟩
theorem WF.row {B B2 : Nat} {V V2 : VT} (h : WF B V) (hB : B ≤ B2) (h2 : B2 ≤ 1000000) (e6 : V2 0 6 = V 0 6) (e7 : ∃ q, V2 0 7 = nI q ∧ (q < vP V ∨ (vP V = 0 ∧ q = 0)) ∧ q < 10) (e8 : ∃ n, n ≤ 999 ∧ V2 0 8 = nI n) (e9 : ∃ n, n ≤ B2 ∧ V2 0 9 = nI n) (e10 : V2 0 10 = -5 ∨ ∃ q, q < vP V ∧ V2 0 10 = nI q)
    (er : ∀ p, p < 6 → (∃ n, n ≤ 6 ∧ V2 1 p = nI n) ∧ (∃ n, n ≤ 9 ∧ V2 2 p = nI n) ∧ (∃ n, n ≤ 19 ∧ V2 3 p = nI n) ∧ (∃ n, n ≤ 9 ∧ V2 4 p = nI n) ∧ (∃ n, n ≤ B2 ∧ V2 5 p = nI n)) (e24 : ∀ i, i < 24 → ∃ n, n ≤ 9 ∧ V2 6 i = nI n) : WF B2 V2 := by
  have hP : vP V2 = vP V := by unfold vP; rw [e6]
  obtain ⟨q, q1, q2, q3⟩ := e7
  have hq : vW V2 = q := by unfold vW; rw [q1, nI_clamp (by omega)]
  exact ⟨by rw [e6, hP]; exact h.1, by rw [hP]; exact h.2.1, ⟨by rw [hq]; exact q1, by rw [hq, hP]; exact q2⟩, e8, e9, by rw [hP]; exact e10, er, e24, h2⟩
theorem WF.w7 {B : Nat} {V : VT} (h : WF B V) : ∃ q, V 0 7 = nI q ∧ (q < vP V ∨ (vP V = 0 ∧ q = 0)) ∧ q < 10 := ⟨vW V, h.2.2.1.1, h.2.2.1.2, by have := h.2.1; have := h.2.2.1.2; omega⟩
theorem WF.up {B B2 : Nat} {V : VT} (h : WF B V) (hB : B ≤ B2) (h2 : B2 ≤ 1000000) : WF B2 V := by
  obtain ⟨a1, a2, a3, a4, ⟨n, hn, a5⟩, a6, a7, a8, a9⟩ := h
  refine ⟨a1, a2, a3, a4, ⟨n, by omega, a5⟩, a6, fun p hp => ?_, a8, h2⟩
  obtain ⟨b1, b2, b3, b4, ⟨m, hm, b5⟩⟩ := a7 p hp
  exact ⟨b1, b2, b3, b4, m, by omega, b5⟩
theorem WF.weight {B : Nat} {V : VT} (h : WF B V) {n : Nat} (hn : n ≤ 999) : WF B (vU V 0 8 (nI n)) := h.row (Nat.le_refl _) h.2.2.2.2.2.2.2.2 (vU_ne (by omega)) (by rw [vU_ne (by omega)]; exact h.w7) (⟨n, hn, vU_eq⟩) (by rw [vU_ne (by omega)]; exact h.2.2.2.2.1) (by rw [vU_ne (by omega)]; exact h.2.2.2.2.2.1) (fun p hp => by rw [vU_ne (by omega), vU_ne (by omega), vU_ne (by omega), vU_ne (by omega), vU_ne (by omega)]; exact h.2.2.2.2.2.2.1 p hp) (fun i hi => by rw [vU_ne (by omega)]; exact h.2.2.2.2.2.2.2.1 i hi)
theorem WF.withU {B : Nat} {V : VT} (h : WF B V) {q : Nat} (hq : q < vP V) : WF B (vU V 0 7 (nI q)) := h.row (Nat.le_refl _) h.2.2.2.2.2.2.2.2 (vU_ne (by omega)) (⟨q, vU_eq, Or.inl hq, by have := h.2.1; omega⟩) (by rw [vU_ne (by omega)]; exact h.2.2.2.1) (by rw [vU_ne (by omega)]; exact h.2.2.2.2.1) (by rw [vU_ne (by omega)]; exact h.2.2.2.2.2.1) (fun p hp => by rw [vU_ne (by omega), vU_ne (by omega), vU_ne (by omega), vU_ne (by omega), vU_ne (by omega)]; exact h.2.2.2.2.2.2.1 p hp) (fun i hi => by rw [vU_ne (by omega)]; exact h.2.2.2.2.2.2.2.1 i hi)
theorem WF.last {B : Nat} {V : VT} (h : WF B V) {q : Nat} (hq : q < vP V) : WF B (vU V 0 10 (nI q)) := h.row (Nat.le_refl _) h.2.2.2.2.2.2.2.2 (vU_ne (by omega)) (by rw [vU_ne (by omega)]; exact h.w7) (by rw [vU_ne (by omega)]; exact h.2.2.2.1) (by rw [vU_ne (by omega)]; exact h.2.2.2.2.1) (Or.inr ⟨q, hq, vU_eq⟩) (fun p hp => by rw [vU_ne (by omega), vU_ne (by omega), vU_ne (by omega), vU_ne (by omega), vU_ne (by omega)]; exact h.2.2.2.2.2.2.1 p hp) (fun i hi => by rw [vU_ne (by omega)]; exact h.2.2.2.2.2.2.2.1 i hi)
theorem WF.last5 {B : Nat} {V : VT} (h : WF B V)  : WF B (vU V 0 10 (-5)) := h.row (Nat.le_refl _) h.2.2.2.2.2.2.2.2 (vU_ne (by omega)) (by rw [vU_ne (by omega)]; exact h.w7) (by rw [vU_ne (by omega)]; exact h.2.2.2.1) (by rw [vU_ne (by omega)]; exact h.2.2.2.2.1) (Or.inl vU_eq) (fun p hp => by rw [vU_ne (by omega), vU_ne (by omega), vU_ne (by omega), vU_ne (by omega), vU_ne (by omega)]; exact h.2.2.2.2.2.2.1 p hp) (fun i hi => by rw [vU_ne (by omega)]; exact h.2.2.2.2.2.2.2.1 i hi)
theorem WF.step1 {B : Nat} {V : VT} (h : WF B V) (hB : B + 1 ≤ 1000000) : WF (B + 1) (vU V 0 9 (V 0 9 + nI 1)) := by
  obtain ⟨n, hn, e⟩ := h.2.2.2.2.1
  have h1 := h.up (Nat.le_succ B) hB
  exact h1.row (Nat.le_refl _) hB (vU_ne (by omega)) (by rw [vU_ne (by omega)]; exact h1.w7) (by rw [vU_ne (by omega)]; exact h1.2.2.2.1) ⟨n + 1, by omega, by rw [vU_eq, e, nI_add]⟩ (by rw [vU_ne (by omega)]; exact h1.2.2.2.2.2.1) (fun p hp => by rw [vU_ne (by omega), vU_ne (by omega), vU_ne (by omega), vU_ne (by omega), vU_ne (by omega)]; exact h1.2.2.2.2.2.2.1 p hp) (fun i hi => by rw [vU_ne (by omega)]; exact h1.2.2.2.2.2.2.2.1 i hi)
/-- a person's number changes -/
theorem WF.pers {B : Nat} {V : VT} (h : WF B V) {f p : Nat} {x : Int32} (hf : 1 ≤ f ∧ f ≤ 5) (hx : ∃ n, n ≤ (if f = 1 then 6 else if f = 2 then 9 else if f = 3 then 19 else if f = 4 then 9 else B) ∧ x = nI n) : WF B (vU V f p x) := by
  obtain ⟨n, hn, rfl⟩ := hx
  refine h.row (Nat.le_refl _) h.2.2.2.2.2.2.2.2 (vU_ne (by omega)) (by rw [vU_ne (by omega)]; exact h.w7) (by rw [vU_ne (by omega)]; exact h.2.2.2.1) (by rw [vU_ne (by omega)]; exact h.2.2.2.2.1) (by rw [vU_ne (by omega)]; exact h.2.2.2.2.2.1) (fun q hq => ?_) (fun i hi => by rw [vU_ne (by omega)]; exact h.2.2.2.2.2.2.2.1 i hi)
  obtain ⟨a1, a2, a3, a4, a5⟩ := h.2.2.2.2.2.2.1 q hq
  by_cases e : q = p
  · subst e
    rcases (show f = 1 ∨ f = 2 ∨ f = 3 ∨ f = 4 ∨ f = 5 by omega) with rfl | rfl | rfl | rfl | rfl
    · exact ⟨⟨n, hn, vU_eq⟩, by rw [vU_ne (by omega)]; exact a2, by rw [vU_ne (by omega)]; exact a3, by rw [vU_ne (by omega)]; exact a4, by rw [vU_ne (by omega)]; exact a5⟩
    · exact ⟨by rw [vU_ne (by omega)]; exact a1, ⟨n, hn, vU_eq⟩, by rw [vU_ne (by omega)]; exact a3, by rw [vU_ne (by omega)]; exact a4, by rw [vU_ne (by omega)]; exact a5⟩
    · exact ⟨by rw [vU_ne (by omega)]; exact a1, by rw [vU_ne (by omega)]; exact a2, ⟨n, hn, vU_eq⟩, by rw [vU_ne (by omega)]; exact a4, by rw [vU_ne (by omega)]; exact a5⟩
    · exact ⟨by rw [vU_ne (by omega)]; exact a1, by rw [vU_ne (by omega)]; exact a2, by rw [vU_ne (by omega)]; exact a3, ⟨n, hn, vU_eq⟩, by rw [vU_ne (by omega)]; exact a5⟩
    · exact ⟨by rw [vU_ne (by omega)]; exact a1, by rw [vU_ne (by omega)]; exact a2, by rw [vU_ne (by omega)]; exact a3, by rw [vU_ne (by omega)]; exact a4, ⟨n, hn, vU_eq⟩⟩
  · rw [vU_ne (by omega), vU_ne (by omega), vU_ne (by omega), vU_ne (by omega), vU_ne (by omega)]
    exact ⟨a1, a2, a3, a4, a5⟩
theorem WF.rowU {B : Nat} {V : VT} (h : WF B V) {j n : Nat} (hn : n ≤ 9) : WF B (vU V 6 j (nI n)) := by
  refine h.row (Nat.le_refl _) h.2.2.2.2.2.2.2.2 (vU_ne (by omega)) (by rw [vU_ne (by omega)]; exact h.w7) (by rw [vU_ne (by omega)]; exact h.2.2.2.1) (by rw [vU_ne (by omega)]; exact h.2.2.2.2.1) (by rw [vU_ne (by omega)]; exact h.2.2.2.2.2.1) (fun p hp => by rw [vU_ne (by omega), vU_ne (by omega), vU_ne (by omega), vU_ne (by omega), vU_ne (by omega)]; exact h.2.2.2.2.2.2.1 p hp) (fun i hi => ?_)
  by_cases e : i = j
  · subst e
    exact ⟨n, hn, vU_eq⟩
  · rw [vU_ne (by omega)]
    exact h.2.2.2.2.2.2.2.1 i hi
theorem mx_nI {x : Int32} (h : x ≤ nI 999) : ∃ n, n ≤ 999 ∧ mx (nI 0) x = nI n := by
  unfold mx
  split
  · rename_i c
    obtain ⟨j, hj, e⟩ := nI_of2 (n := 999) (M := nI 999) (by decide) (fun z => absurd (Int32.lt_trans c z) (by decide)) h
    exact ⟨j, hj, e⟩
  · exact ⟨0, by omega, rfl⟩
theorem mn_le (x : Int32) : mn (nI 999) x ≤ nI 999 := by
  unfold mn
  split
  · rename_i c
    exact Int32.le_of_lt c
  · exact Int32.le_refl _
theorem mn_nI {a b : Nat} (ha : a < 2 ^ 31) (hb : b < 2 ^ 31) : mn (nI a) (nI b) = nI (min a b) := by
  unfold mn
  by_cases c : b < a
  · rw [if_pos ((nI_ltI hb ha).mpr c), Nat.min_eq_right (by omega)]
  · rw [if_neg (fun z => c ((nI_ltI hb ha).mp z)), Nat.min_eq_left (by omega)]
theorem WF.carry {B : Nat} {E : EV} {V : VT} (h : WF B V) (hE : EW E) (hB : B + 1 ≤ 1000000) {p q : Nat} (hp : p < vP V) (hq : q < vP V) : WF (B + 1) (carryF E V p q).2 := by
  have h6 := h.2.1
  unfold carryF
  split
  · split
    · exact (h.last hp).up (Nat.le_succ B) hB
    · rename_i c
      obtain ⟨-, -, -, ⟨n, hn, e4⟩, ⟨m, hm, e5⟩⟩ := h.2.2.2.2.2.2.1 p (by omega)
      obtain ⟨g, hg, e8⟩ := h.2.2.2.1
      obtain ⟨-, k, hk, ek⟩ := hE
      have hn0 : 0 < n := by
        rcases Nat.eq_zero_or_pos n with z | z
        · exact absurd (by rw [e4, z]; decide) c
        · exact z
      rw [e4, e5, e8, ek, pk_sub (by omega), nI_add, nI_add, mn_nI (by omega) (by omega)]
      have h1 := (h.up (Nat.le_succ B) hB).pers (f := 4) (p := p) (x := nI (n - 1)) (by omega) ⟨n - 1, by simp; omega, rfl⟩
      have h2 := h1.pers (f := 5) (p := p) (x := nI (m + 1)) (by omega) ⟨m + 1, by simp; omega, rfl⟩
      exact h2.weight (by omega)
  · obtain ⟨n, hn, e⟩ := mx_nI (mn_le (V 0 8 + rainF E V p))
    rw [e]
    exact ((h.weight hn).withU (q := q) (by rw [show vP (vU V 0 8 (nI n)) = vP V from congrArg Int32.toNatClampNeg (vU_ne (by omega))]; exact hq)).up (Nat.le_succ B) hB
theorem bestO_some {ok : Nat → Bool} {lt : Nat → Nat → Bool} {j : Nat} (hj : ok j = true) : ∀ {k : Nat}, j < k → ∃ b, bestO ok lt k = some b := by
  intro k
  induction k with
  | zero => intro h; omega
  | succ k ih =>
    intro h
    cases hb : bestO ok lt k with
    | none =>
      by_cases e : j = k
      · subst e
        exact ⟨j, by rw [bestO_n hb, if_pos hj]⟩
      · obtain ⟨b, h2⟩ := ih (by omega)
        rw [hb] at h2
        cases h2
    | some b =>
      rw [bestO_s hb]
      split
      · exact ⟨k, rfl⟩
      · exact ⟨b, rfl⟩
theorem bestO_ok {ok : Nat → Bool} {lt : Nat → Nat → Bool} : ∀ {k b : Nat}, bestO ok lt k = some b → ok b = true := by
  intro k
  induction k with
  | zero => intro b h; cases h
  | succ k ih =>
    intro b h
    cases hb : bestO ok lt k with
    | none =>
      rw [bestO_n hb] at h
      split at h
      · cases h; assumption
      · cases h
    | some b0 =>
      rw [bestO_s hb] at h
      split at h
      · rename_i c; cases h; exact c.1
      · cases h; exact ih hb
theorem other {P p : Nat} (h : 2 ≤ P) : ∃ j, j < P ∧ ¬ j = p := by
  by_cases e : p = 0
  · exact ⟨1, by omega, by omega⟩
  · exact ⟨0, by omega, by omega⟩
theorem target_some {E : EV} {V : VT} {p : Nat} (h : 2 ≤ vP V) : ∃ q, q < vP V ∧ ¬ q = p ∧ targetF E V p = some q := by
  obtain ⟨j, hj, hne⟩ := other (p := p) h
  have near : ∃ q, q < vP V ∧ ¬ q = p ∧ nearK V p (vP V) = some q := by
    obtain ⟨b, hb⟩ := bestO_some (ok := fun q => !decide (q = p)) (lt := fun q b => !decide (wayF V p b ≤ wayF V p q)) (j := j) (by simp [hne]) hj
    exact ⟨b, bestO_lt hb, by have := bestO_ok hb; simpa using this, hb⟩
  have hope : ∃ q, q < vP V ∧ ¬ q = p ∧ hopeK V p (vP V) = some q := by
    obtain ⟨b, hb⟩ := bestO_some (ok := fun q => !decide (q = p)) (lt := fun q b => !decide (V 4 q ≤ V 4 b)) (j := j) (by simp [hne]) hj
    exact ⟨b, bestO_lt hb, by have := bestO_ok hb; simpa using this, hb⟩
  unfold targetF
  split
  · split
    · exact near
    · rename_i q hq
      refine ⟨q, bestO_lt hq, ?_, rfl⟩
      have := bestO_ok hq
      simp at this
      exact this.1
  · split
    · exact hope
    · exact near
theorem vP_U {V : VT} {f i : Nat} {x : Int32} (h : ¬ (0 = f ∧ 6 = i)) : vP (vU V f i x) = vP V := congrArg Int32.toNatClampNeg (vU_ne h)
theorem carry_P {E : EV} {V : VT} {p q : Nat} : vP (carryF E V p q).2 = vP V := by
  unfold carryF
  split
  · split
    · exact vP_U (V := V) (f := 0) (i := 10) (x := nI p) (by omega)
    · show vP (vU (vU (vU V 4 p (V 4 p - nI 1)) 5 p (V 5 p + nI 1)) 0 8 (mn (nI 999) (V 0 8 + E.2.1))) = _
      rw [vP_U (by omega), vP_U (by omega), vP_U (by omega)]
  · show vP (vU (vU V 0 8 (mx (nI 0) (mn (nI 999) (V 0 8 + rainF E V p)))) 0 7 (nI q)) = _
    rw [vP_U (by omega), vP_U (by omega)]
theorem WF.move {B : Nat} {E : EV} {V : VT} (h : WF B V) (hE : EW E) (hB : B + 2 ≤ 1000000) : WF (B + 2) (moveF E V).2 := by
  unfold moveF
  split
  · exact h.up (by omega) hB
  · rename_i c
    have hp2 : 2 ≤ vP V := Nat.not_lt.mp fun z => c (Or.inr z)
    obtain ⟨q, hq, -, ht⟩ := target_some (E := E) (p := vW V) hp2
    rw [ht]
    have hp : vW V < vP V := by have := h.2.2.1.2; omega
    exact (h.carry hE (by omega) hp hq).step1 (by omega)
theorem move_P {E : EV} {V : VT} : vP (moveF E V).2 = vP V := by
  unfold moveF
  split
  · rfl
  · show vP (vU _ _ _ _) = _
    rw [show ∀ (U : VT) x, vP (vU U 0 9 x) = vP U from fun U x => congrArg Int32.toNatClampNeg (vU_ne (by omega))]
    exact carry_P
theorem WF.goes {E : EV} (hE : EW E) : ∀ (n : Nat) {B : Nat} {V : VT}, WF B V → B + 2 * n ≤ 1000000 → WF (B + 2 * n) (goF E n V) := by
  intro n
  induction n with
  | zero => intro B V h _; exact h
  | succ n ih =>
    intro B V h hB
    have := ih (h.move hE (by omega)) (by omega)
    rw [show B + 2 * (n + 1) = B + 2 + 2 * n by omega]
    exact this
/-- what lies beyond the rows is 0 -/
def ZV (V : VT) : Prop := (∀ i, (i < 6 ∨ 10 < i) → V 0 i = 0) ∧ (∀ f i, 1 ≤ f → f ≤ 5 → 6 ≤ i → V f i = 0) ∧ ∀ i, 24 ≤ i → V 6 i = 0
theorem ZV.U {V : VT} (h : ZV V) {f i : Nat} {x : Int32} (hr : (f = 0 ∧ 6 ≤ i ∧ i ≤ 10) ∨ (1 ≤ f ∧ f ≤ 5 ∧ i < 6) ∨ (f = 6 ∧ i < 24)) : ZV (vU V f i x) := by
  refine ⟨fun j hj => ?_, fun g j h1 h2 h3 => ?_, fun j hj => ?_⟩
  · rw [vU_ne (by omega)]; exact h.1 j hj
  · rw [vU_ne (by omega)]; exact h.2.1 g j h1 h2 h3
  · rw [vU_ne (by omega)]; exact h.2.2 j hj
theorem ZV.carry {E : EV} {V : VT} {p q : Nat} (h : ZV V) (hp : p < 6) : ZV (carryF E V p q).2 := by
  unfold carryF
  split
  · split
    · exact h.U (by omega)
    · exact ((h.U (by omega)).U (by omega)).U (by omega)
  · exact (h.U (by omega)).U (by omega)
theorem ZV.move {B : Nat} {E : EV} {V : VT} (h : ZV V) (hW : WF B V) : ZV (moveF E V).2 := by
  unfold moveF
  split
  · exact h
  · exact (h.carry (by have := hW.2.1; have := hW.2.2.1.2; omega)).U (by omega)
theorem ZV.goes {E : EV} (hE : EW E) : ∀ (n : Nat) {B : Nat} {V : VT}, WF B V → B + 2 * n ≤ 1000000 → ZV V → ZV (goF E n V) := by
  intro n
  induction n with
  | zero => intro B V _ _ h; exact h
  | succ n ih =>
    intro B V hW hB h
    exact ih (hW.move hE (by omega)) (by omega) (h.move hW)
