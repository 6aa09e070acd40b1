/-! the reference's expressions: whole ones, and factors -/
theorem l_mexpr : ∀ (d : Nat) {h : hp_T} {T : TX} {G : GP} {D : Nat} {fac : Nat → List Nat → PR} (C : CS h) (gs : ∀ p out, (fac p out).1 = true → p ≤ (fac p out).2.1) (gt : ∀ p out, (termF T fac p out).1 = true → p ≤ (termF T fac p out).2.1) {w : wc_T} {κ : cx_T} {Φ : Option Value → hp_T → Prop} (X : CX w κ (d + 4) 8 cX8_takesE 4 (some .boolean) Φ) (F : FcM T G h w κ Φ D fac) {W : List Nat} (t : TopE W) (hD : D + opn W = 4) (p : Nat) (out : List Nat) (M : Mem) (z : Option Value) (S : PSt T G p out W M) (hp : 1 ≤ p) (hT : (exprF T fac p out).1 = true → ∀ M1 z1 cs1 A1 B1 x1, PSt T G (exprF T fac p out).2.1 cs1 (A1 ++ (B1 ++ W)) M1 → AR A1 cs1 x1 → BR B1 x1 (exprF T fac p out).2.2 → ¬ aheadN T (exprF T fac p out).2.1 = 38 → ¬ aheadN T (exprF T fac p out).2.1 = 124 → AtM h w κ G 0 z1 M1) (hF : (exprF T fac p out).1 = false → ∀ M1, MtS T (exprF T fac p out).2.1 M1 → PK G M1 → Φ (some (.int (nI 0))) (wi h M1)), AtM h w κ G 1 z M := by
  intro d h T G D fac C gs gt w κ Φ X F W t hD p out M z S hp hT hF
  refine l_mterm d C gs X F t.top hD p out M z S hp (fun hs M2 z2 cs2 A2 q2 a2 n38 => ?_) (fun hs M2 m2 k2 => ?_)
  · have e : exprF T fac p out = orF T fac 99 (termF T fac p out).2.1 (termF T fac p out).2.2 := if_pos hs
    rw [e] at hT hF
    have g := gt p out hs
    exact l_mor d C gs gt X F t hD 99 _ cs2 A2 [] _ _ M2 z2 q2 a2 (Or.inl ⟨rfl, rfl⟩) n38 (by omega) hT hF
  · have e : exprF T fac p out = termF T fac p out := if_neg (by rw [hs]; decide)
    rw [e] at hF
    exact hF hs M2 m2 k2
theorem l_mfac : ∀ (d : Nat) {h : hp_T} {T : TX} {G : GP} (C : CS h) (hcc : G.2.2.1 < 60) {w : wc_T} {κ : cx_T} {Φ : Option Value → hp_T → Prop} (X : CX w κ (d + 4) 8 cX8_takesE 4 (some .boolean) Φ), ∀ D, FcM T G h w κ Φ D (factorF T D) := by
  intro d h T G C hcc w κ Φ X D
  induction D with
  | zero =>
    intro p cs W M z S hD hT hF
    by_cases c : aheadN T p = 33 ∨ aheadN T p = 40
    · have e : factorF T 0 p cs = (false, p, cs) := if_pos c
      rw [e] at hF
      exact l_mpush d C S c rfl X (fun o => absurd (by omega) o) (fun _ => hF rfl M S.m S.k)
    · have e : factorF T 0 p cs = testF T p cs := if_neg c
      rw [e] at hT hF
      exact l_mtst d C S (fun y => c (Or.inl y)) (fun y => c (Or.inr y)) X hT hF
  | succ D ih =>
    intro p cs W M z S hD hT hF
    have n4 : ¬ opn W = 4 := by omega
    by_cases c33 : aheadN T p = 33
    · refine l_mpush d C S (c := 33) (Or.inl rfl) c33 X (fun _ M1 z1 q => ?_) (fun o => absurd o n4)
      have o : opn (33 :: W) = opn W + 1 := if_pos (Or.inl rfl)
      refine ih (p + 1) cs (33 :: W) M1 z1 q (by rw [o]; omega) (fun hs M2 z2 q2 => ?_) (fun hs M2 m2 k2 => ?_)
      · have e : factorF T (D + 1) p cs = (true, (factorF T D (p + 1) cs).2.1, (factorF T D (p + 1) cs).2.2 ++ [327680]) := (if_pos c33).trans (if_pos hs)
        rw [e] at hT
        rw [show stC (33 :: W) (factorF T D (p + 1) cs).2.2 = stC W ((factorF T D (p + 1) cs).2.2 ++ [327680]) from if_pos rfl, show stW (33 :: W) = stW W from if_pos rfl] at q2
        exact hT rfl M2 z2 q2
      · have e : factorF T (D + 1) p cs = factorF T D (p + 1) cs := (if_pos c33).trans (if_neg (by rw [hs]; decide))
        rw [e] at hF
        exact hF hs M2 m2 k2
    · by_cases c40 : aheadN T p = 40
      · refine l_mpush d C S (c := 40) (Or.inr rfl) c40 X (fun _ M1 z1 q => ?_) (fun o => absurd o n4)
        have o : opn (40 :: W) = opn W + 1 := if_pos (Or.inr rfl)
        have t : TopE (40 :: W) := Or.inr ⟨W, rfl⟩
        have f0 : factorF T (D + 1) p cs = if (exprF T (factorF T D) (p + 1) cs).1 = true then takeF T 41 (exprF T (factorF T D) (p + 1) cs).2.1 (exprF T (factorF T D) (p + 1) cs).2.2 else exprF T (factorF T D) (p + 1) cs := (if_neg c33).trans (if_pos c40)
        refine l_mexpr d C (gs_of (grow_fac D) (sem_fac D)) (gs_of (grow_term (grow_fac D)) (sem_term (sem_fac D))) X ih t (by rw [o]; omega) (p + 1) cs M1 z1 q (by omega) (fun hs M2 z2 cs2 A2 B2 x2 q2 a2 b2 n38 n124 => ?_) (fun hs M2 m2 k2 => ?_)
        · have e0 := a2.se2 b2 t
          refine l_mend1 d C q2 hcc n38 n124 (R := W) e0.2 X (fun h41 M3 z3 q3 => ?_) (fun h41 M3 m3 k3 => ?_)
          · have e : factorF T (D + 1) p cs = (true, (exprF T (factorF T D) (p + 1) cs).2.1 + 1, (exprF T (factorF T D) (p + 1) cs).2.2) := f0.trans ((if_pos hs).trans (if_pos h41))
            rw [e0.1] at q3
            rw [e] at hT
            exact hT rfl M3 z3 q3
          · have e : factorF T (D + 1) p cs = (false, (exprF T (factorF T D) (p + 1) cs).2.1, (exprF T (factorF T D) (p + 1) cs).2.2) := f0.trans ((if_pos hs).trans (if_neg h41))
            rw [e] at hF
            exact hF rfl M3 m3 k3
        · have e : factorF T (D + 1) p cs = exprF T (factorF T D) (p + 1) cs := f0.trans (if_neg (by rw [hs]; decide))
          rw [e] at hF
          exact hF hs M2 m2 k2
      · have e : factorF T (D + 1) p cs = testF T p cs := (if_neg c33).trans (if_neg c40)
        rw [e] at hT hF
        exact l_mtst d C S c33 c40 X hT hF
theorem l_mE : ∀ (d : Nat) {h : hp_T} {T : TX} {G : GP} (C : CS h) (hcc : G.2.2.1 < 60) {w : wc_T} {κ : cx_T} {Φ : Option Value → hp_T → Prop} (X : CX w κ (d + 4) 8 cX8_takesE 4 (some .boolean) Φ) (p : Nat) (out : List Nat) (M : Mem) (z : Option Value) (S : PSt T G p out [] M) (hp : 1 ≤ p) (hT : (exprF T (factorF T 4) p out).1 = true → ∀ M1, PSt T G (exprF T (factorF T 4) p out).2.1 (exprF T (factorF T 4) p out).2.2 [] M1 → M1 92 G.2.2.1 = nI (G.1 + (exprF T (factorF T 4) p out).2.2.length) → Φ (some (.int (nI 1))) (wi h M1)) (hF : (exprF T (factorF T 4) p out).1 = false → ∀ M1, MtS T (exprF T (factorF T 4) p out).2.1 M1 → PK G M1 → Φ (some (.int (nI 0))) (wi h M1)), AtM h w κ G 1 z M := by
  intro d h T G C hcc w κ Φ X p out M z S hp hT hF
  have t : TopE [] := Or.inl rfl
  refine l_mexpr d C (gs_of (grow_fac 4) (sem_fac 4)) (gs_of (grow_term (grow_fac 4)) (sem_term (sem_fac 4))) X (l_mfac d C hcc X 4) t rfl p out M z S hp (fun hs M2 z2 cs2 A2 B2 x2 q2 a2 b2 n38 n124 => ?_) hF
  have e0 := a2.se2 b2 t
  refine l_mend0 d C q2 hcc n38 n124 e0.2 X (fun M3 q3 w3 => ?_)
  rw [e0.1] at q3 w3
  exact hT hs M3 q3 w3
