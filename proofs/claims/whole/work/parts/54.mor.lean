/-! the reference's expressions: terms, and the or-loop -/
theorem gs_of {H : Nat} {f : Nat → List Nat → PR} (g : Grow f) (s : SemF H f) : ∀ p out, (f p out).1 = true → p ≤ (f p out).2.1 := by
  intro p out e
  obtain ⟨cs, e1, _⟩ := s p out e
  have g1 := g p out
  rw [e1, List.length_append] at g1
  omega
theorem st_top {V cs : List Nat} (t : Top V) : stC V cs = cs ∧ stW V = V := by
  rcases t with e | ⟨c, r, e, hc⟩
  · subst e
    exact ⟨rfl, rfl⟩
  · subst e
    exact ⟨if_neg (by omega), if_neg (by omega)⟩
theorem l_mterm : ∀ (d : Nat) {h : hp_T} {T : TX} {G : GP} {D : Nat} {fac : Nat → List Nat → PR} (C : CS h) (gs : ∀ p out, (fac p out).1 = true → p ≤ (fac p out).2.1) {w : wc_T} {κ : cx_T} {Φ : Option Value → hp_T → Prop} (X : CX w κ (d + 4) 8 cX8_takesE 4 (some .boolean) Φ) (F : FcM T G h w κ Φ D fac) {V : List Nat} (t : Top V) (hD : D + opn V = 4) (p : Nat) (out : List Nat) (M : Mem) (z : Option Value) (S : PSt T G p out V M) (hp : 1 ≤ p) (hT : (termF T fac p out).1 = true → ∀ M1 z1 cs1 A1, PSt T G (termF T fac p out).2.1 cs1 (A1 ++ V) M1 → AR A1 cs1 (termF T fac p out).2.2 → ¬ aheadN T (termF T fac p out).2.1 = 38 → AtM h w κ G 0 z1 M1) (hF : (termF T fac p out).1 = false → ∀ M1, MtS T (termF T fac p out).2.1 M1 → PK G M1 → Φ (some (.int (nI 0))) (wi h M1)), AtM h w κ G 1 z M := by
  intro d h T G D fac C gs w κ Φ X F V t hD p out M z S hp hT hF
  refine F p out V M z S hD (fun hs M2 z2 q2 => ?_) (fun hs M2 m2 k2 => ?_)
  · have e0 := st_top (cs := (fac p out).2.2) t
    rw [e0.1, e0.2] at q2
    have e : termF T fac p out = andF T fac 99 (fac p out).2.1 (fac p out).2.2 := if_pos hs
    rw [e] at hT hF
    have g := gs p out hs
    exact l_mand d C gs X F t hD 99 _ _ [] _ M2 z2 q2 (Or.inl ⟨rfl, rfl⟩) (by omega) hT hF
  · have e : termF T fac p out = fac p out := if_neg (by rw [hs]; decide)
    rw [e] at hF
    exact hF hs M2 m2 k2
def BR (B x out : List Nat) : Prop := (B = [] ∧ out = x) ∨ (B = [124] ∧ out = x ++ [262144])
def TopE (W : List Nat) : Prop := W = [] ∨ ∃ r, W = 40 :: r
theorem TopE.top {W : List Nat} (t : TopE W) : Top W := t.elim Or.inl (fun ⟨r, e⟩ => Or.inr ⟨40, r, e, Or.inl rfl⟩)
theorem se124 {W cs : List Nat} (t : TopE W) : seC 124 W cs = cs ∧ seW 124 W = W := by
  rcases t with e | ⟨r, e⟩
  · subst e
    exact ⟨rfl, rfl⟩
  · subst e
    exact ⟨if_neg (by omega), if_neg (by omega)⟩
theorem BR.se {B x out W : List Nat} (b : BR B x out) (t : TopE W) : seC 124 (B ++ W) x = out ∧ seW 124 (B ++ W) = W := by
  rcases b with ⟨e, f⟩ | ⟨e, f⟩
  · subst e
    subst f
    exact se124 t
  · subst e
    subst f
    have h1 : seC 124 (124 :: W) x = seC 124 W (x ++ [262144]) := if_pos (Or.inr ⟨rfl, by decide⟩)
    have h2 : seW 124 (124 :: W) = seW 124 W := if_pos (Or.inr ⟨rfl, by decide⟩)
    exact ⟨h1.trans (se124 t).1, h2.trans (se124 (cs := x) t).2⟩
theorem AR.se2 {A B cs x out W : List Nat} (a : AR A cs x) (b : BR B x out) (t : TopE W) : seC 124 (A ++ (B ++ W)) cs = out ∧ seW 124 (A ++ (B ++ W)) = W := by
  rcases a with ⟨e, f⟩ | ⟨e, f⟩
  · subst e
    subst f
    exact b.se t
  · subst e
    subst f
    have h1 : seC 124 (38 :: (B ++ W)) cs = seC 124 (B ++ W) (cs ++ [196608]) := if_pos (Or.inl rfl)
    have h2 : seW 124 (38 :: (B ++ W)) = seW 124 (B ++ W) := if_pos (Or.inl rfl)
    exact ⟨h1.trans (b.se t).1, h2.trans (b.se t).2⟩
theorem l_mor : ∀ (d : Nat) {h : hp_T} {T : TX} {G : GP} {D : Nat} {fac : Nat → List Nat → PR} (C : CS h) (gs : ∀ p out, (fac p out).1 = true → p ≤ (fac p out).2.1) (gt : ∀ p out, (termF T fac p out).1 = true → p ≤ (termF T fac p out).2.1) {w : wc_T} {κ : cx_T} {Φ : Option Value → hp_T → Prop} (X : CX w κ (d + 4) 8 cX8_takesE 4 (some .boolean) Φ) (F : FcM T G h w κ Φ D fac) {W : List Nat} (t : TopE W) (hD : D + opn W = 4) (k p : Nat) (cs A B x out : List Nat) (M : Mem) (z : Option Value) (S : PSt T G p cs (A ++ (B ++ W)) M) (a : AR A cs x) (b : BR B x out) (h38 : ¬ aheadN T p = 38) (hk : 100 ≤ p + k) (hT : (orF T fac k p out).1 = true → ∀ M1 z1 cs1 A1 B1 x1, PSt T G (orF T fac k p out).2.1 cs1 (A1 ++ (B1 ++ W)) M1 → AR A1 cs1 x1 → BR B1 x1 (orF T fac k p out).2.2 → ¬ aheadN T (orF T fac k p out).2.1 = 38 → ¬ aheadN T (orF T fac k p out).2.1 = 124 → AtM h w κ G 0 z1 M1) (hF : (orF T fac k p out).1 = false → ∀ M1, MtS T (orF T fac k p out).2.1 M1 → PK G M1 → Φ (some (.int (nI 0))) (wi h M1)), AtM h w κ G 0 z M := by
  intro d h T G D fac C gs gt w κ Φ X F W t hD k
  induction k with
  | zero =>
    intro p cs A B x out M z S a b h38 hk hT hF
    have n1 := S.n
    have e9 : aheadN T p = 999 := if_neg (by omega)
    have c : ¬ aheadN T p = 124 := fun y => absurd (e9.symm.trans y) (by decide)
    have e : orF T fac 0 p out = (true, p, out) := if_neg c
    rw [e] at hT
    exact hT rfl M z cs A B x S a b h38 c
  | succ k ih =>
    intro p cs A B x out M z S a b h38 hk hT hF
    by_cases c : aheadN T p = 124
    · have e0 := a.se2 b t
      refine l_mop d C S (g := 124) (Or.inr rfl) c X (fun M1 z1 q => ?_)
      rw [e0.1, e0.2] at q
      have o : opn (124 :: W) = opn W := if_neg (by omega)
      refine l_mterm d C gs X F (V := 124 :: W) (Or.inr ⟨124, W, rfl, Or.inr rfl⟩) (by rw [o]; exact hD) (p + 1) out M1 z1 q (by omega) (fun hs M2 z2 cs2 A2 q2 a2 n38 => ?_) (fun hs M2 m2 k2 => ?_)
      · have e : orF T fac (k + 1) p out = orF T fac k (termF T fac (p + 1) out).2.1 ((termF T fac (p + 1) out).2.2 ++ [262144]) := (if_pos c).trans (if_pos hs)
        rw [e] at hT hF
        have g := gt (p + 1) out hs
        exact ih _ cs2 A2 [124] _ _ M2 z2 q2 a2 (Or.inr ⟨rfl, rfl⟩) n38 (by omega) hT hF
      · have e : orF T fac (k + 1) p out = termF T fac (p + 1) out := (if_pos c).trans (if_neg (by rw [hs]; decide))
        rw [e] at hF
        exact hF hs M2 m2 k2
    · have e : orF T fac (k + 1) p out = (true, p, out) := if_neg c
      rw [e] at hT
      exact hT rfl M z cs A B x S a b h38 c
