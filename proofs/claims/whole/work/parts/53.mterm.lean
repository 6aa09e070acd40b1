/-! the reference's expressions: the steps put together -/
abbrev AtM (h : hp_T) (w : wc_T) (κ : cx_T) (G : GP) (v : Nat) (z : Option Value) (M : Mem) : Prop := GG w κ 22 [some (.ref 80), some (.int (nI G.2.2.1)), some (.int (nI v)), z] [] (wi h M)
def FcM (T : TX) (G : GP) (h : hp_T) (w : wc_T) (κ : cx_T) (Φ : Option Value → hp_T → Prop) (D : Nat) (fac : Nat → List Nat → PR) : Prop := ∀ (p : Nat) (cs W : List Nat) (M : Mem) (z : Option Value), PSt T G p cs W M → D + opn W = 4 → ((fac p cs).1 = true → ∀ M1 z1, PSt T G (fac p cs).2.1 (stC W (fac p cs).2.2) (stW W) M1 → AtM h w κ G 0 z1 M1) → ((fac p cs).1 = false → ∀ M1, MtS T (fac p cs).2.1 M1 → PK G M1 → Φ (some (.int (nI 0))) (wi h M1)) → AtM h w κ G 1 z M
/-- one & may wait yet -/
def AR (A cs out : List Nat) : Prop := (A = [] ∧ out = cs) ∨ (A = [38] ∧ out = cs ++ [196608])
def Top (W : List Nat) : Prop := W = [] ∨ ∃ c r, W = c :: r ∧ (c = 40 ∨ c = 124)
theorem se38 {W cs : List Nat} (t : Top W) : seC 38 W cs = cs ∧ seW 38 W = W := by
  rcases t with e | ⟨c, r, e, hc⟩
  · subst e
    exact ⟨rfl, rfl⟩
  · subst e
    exact ⟨if_neg (by omega), if_neg (by omega)⟩
theorem AR.se {A cs out W : List Nat} (a : AR A cs out) (t : Top W) : seC 38 (A ++ W) cs = out ∧ seW 38 (A ++ W) = W := by
  rcases a with ⟨e, f⟩ | ⟨e, f⟩
  · subst e
    subst f
    exact se38 t
  · subst e
    subst f
    have h1 : seC 38 (38 :: W) cs = seC 38 W (cs ++ [196608]) := if_pos (Or.inl rfl)
    have h2 : seW 38 (38 :: W) = seW 38 W := if_pos (Or.inl rfl)
    exact ⟨h1.trans (se38 t).1, h2.trans (se38 (cs := cs) t).2⟩
theorem l_mand : ∀ (d : Nat) {h : hp_T} {T : TX} {G : GP} {D : Nat} {fac : Nat → List Nat → PR} (C : CS h) (gs : ∀ p out, (fac p out).1 = true → p ≤ (fac p out).2.1) {w : wc_T} {κ : cx_T} {Φ : Option Value → hp_T → Prop} (X : CX w κ (d + 4) 8 cX8_takesE 4 (some .boolean) Φ) (F : FcM T G h w κ Φ D fac) {W : List Nat} (t : Top W) (hD : D + opn W = 4) (k p : Nat) (cs A out : List Nat) (M : Mem) (z : Option Value) (S : PSt T G p cs (A ++ W) M) (a : AR A cs out) (hk : 100 ≤ p + k) (hT : (andF T fac k p out).1 = true → ∀ M1 z1 cs1 A1, PSt T G (andF T fac k p out).2.1 cs1 (A1 ++ W) M1 → AR A1 cs1 (andF T fac k p out).2.2 → ¬ aheadN T (andF T fac k p out).2.1 = 38 → AtM h w κ G 0 z1 M1) (hF : (andF T fac k p out).1 = false → ∀ M1, MtS T (andF T fac k p out).2.1 M1 → PK G M1 → Φ (some (.int (nI 0))) (wi h M1)), AtM h w κ G 0 z M := by
  intro d h T G D fac C gs w κ Φ X F W t hD k
  induction k with
  | zero =>
    intro p cs A out M z S a hk hT hF
    have n1 := S.n
    have e : andF T fac 0 p out = (true, p, out) := rfl
    rw [e] at hT
    have e9 : aheadN T p = 999 := if_neg (by omega)
    exact hT rfl M z cs A S a (fun y => absurd (e9.symm.trans y) (by decide))
  | succ k ih =>
    intro p cs A out M z S a hk hT hF
    by_cases c : aheadN T p = 38
    · have e0 := a.se t
      refine l_mop d C S (g := 38) (Or.inl rfl) c X (fun M1 z1 q => ?_)
      rw [e0.1, e0.2] at q
      have o : opn (38 :: W) = opn W := if_neg (by omega)
      refine F (p + 1) out (38 :: W) M1 z1 q (by rw [o]; exact hD) (fun hs M2 z2 q2 => ?_) (fun hs M2 m2 k2 => ?_)
      · rw [show stC (38 :: W) (fac (p + 1) out).2.2 = (fac (p + 1) out).2.2 from if_neg (by decide), show stW (38 :: W) = 38 :: W from if_neg (by decide)] at q2
        have e : andF T fac (k + 1) p out = andF T fac k (fac (p + 1) out).2.1 ((fac (p + 1) out).2.2 ++ [196608]) := (if_pos c).trans (if_pos hs)
        rw [e] at hT hF
        have g := gs (p + 1) out hs
        exact ih (fac (p + 1) out).2.1 (fac (p + 1) out).2.2 [38] _ M2 z2 q2 (Or.inr ⟨rfl, rfl⟩) (by omega) hT hF
      · have e : andF T fac (k + 1) p out = fac (p + 1) out := (if_pos c).trans (if_neg (by rw [hs]; decide))
        rw [e] at hF
        exact hF hs M2 m2 k2
    · have e : andF T fac (k + 1) p out = (true, p, out) := if_neg c
      rw [e] at hT
      exact hT rfl M z cs A S a c
