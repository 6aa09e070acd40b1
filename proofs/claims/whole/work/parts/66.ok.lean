/-! what holds of the state goes on holding -/
theorem has_to {B : Nat} {V : VT} {x : Int32} (hW : WF B V) (h : hasF x (V 0 6) = true) : ∃ q, q < vP V ∧ q < 6 ∧ x = nI q := by
  unfold hasF at h
  rw [Bool.and_eq_true] at h
  obtain ⟨e1, e2⟩ := h
  simp only [Bool.not_eq_true', decide_eq_false_iff_not] at e1 e2
  obtain ⟨p, hp, ep⟩ := nI_of e1
  rw [ep, hW.1] at e2
  have h6 := hW.2.1
  have hl : p < vP V := Nat.not_le.mp fun z => e2 (nI_le z hp)
  exact ⟨p, hl, by omega, ep⟩
theorem oks_up {B B2 ne n2 : Nat} {s : SCN} (h : OKS B ne s) (hB : B ≤ B2) (h2 : B2 ≤ 1000000) (hn : ne ≤ n2) : OKS B2 n2 s :=
  ⟨⟨h.1.1.up hB h2, h.1.2⟩, fun k hk => Nat.lt_of_lt_of_le (h.2.1 k hk) hn, h.2.2⟩
theorem ok_up {B B2 : Nat} {σ : SG} (h : OK B σ) (hB : B ≤ B2) (h2 : B2 ≤ 1000000) : OK B2 σ :=
  ⟨oks_up h.1 hB h2 (Nat.le_refl _), fun s hs => oks_up (h.2.1 s hs) hB h2 (Nat.le_refl _), h.2.2⟩
section S66
variable {σ : SG} {B : Nat} {V : VT}
theorem ok_nz (O : OK B σ) : NZ (sV σ) := O.1.1.2.2
theorem ok_same {z : SG} (O : OK B σ) (hB : B + 2 ≤ 1000000) (e : z = σ) : OK (B + 2) z := by
  rw [e]
  exact ok_up O (by omega) hB
theorem ok_setV (O : OK B σ) (hB : B + 2 ≤ 1000000) (hW : WF (B + 2) V) (hz : ZV V) (hn : NZ V) (hP : vP (sV σ) ≤ vP V) : OK (B + 2) (setV σ V) := by
  have O2 := ok_up O (B2 := B + 2) (by omega) hB
  obtain ⟨⟨-, a2, a3, a4, a5⟩, b1, b2⟩ := O2
  refine ⟨⟨⟨hW, hz, hn⟩, a2, ⟨a3.1, fun i h => ?_⟩, ⟨a4.1, fun i h => ?_⟩, ⟨a5.1, fun i h => ?_⟩⟩, b1, b2⟩
  · obtain ⟨p, n, h1, h2, h3⟩ := a3.2 i h
    exact ⟨p, n, Nat.lt_of_lt_of_le h1 hP, h2, h3⟩
  · obtain ⟨p, h1⟩ := a4.2 i h
    rcases h1 with h1 | h1 | h1
    · exact ⟨p, Or.inl h1⟩
    · exact ⟨p, Or.inr (Or.inl h1)⟩
    · exact ⟨p, Or.inr (Or.inr ⟨Nat.lt_of_lt_of_le h1.1 hP, h1.2⟩)⟩
  · obtain ⟨p, n, h1, h2, h3⟩ := a5.2 i h
    exact ⟨p, n, Nat.lt_of_lt_of_le h1 hP, h2, h3⟩
theorem NZ.U {f i : Nat} {x : Int32} (h : NZ V) (h0 : ¬ (f = 0 ∧ i = 6)) (h5 : ¬ f = 5 ∨ i < vP V) (h6 : ¬ f = 6 ∨ i < vP V * 4) : NZ (vU V f i x) := by
  intro p hp
  rw [vP_U (by omega)] at hp
  have a := h p hp
  exact ⟨by rw [vU_ne (by omega)]; exact a.1, fun j hj => by rw [vU_ne (by omega)]; exact a.2 j hj⟩
theorem nz_carry {E : EV} {p q : Nat} (h : NZ V) (hp : p < vP V) : NZ (carryF E V p q).2 := by
  unfold carryF
  split
  · split
    · exact h.U (by omega) (by omega) (by omega)
    · exact ((h.U (by omega) (by omega) (by omega)).U (by omega) (by rw [vP_U (by omega)]; omega) (by omega)).U (by omega) (by omega) (by omega)
  · exact (h.U (by omega) (by omega) (by omega)).U (by omega) (by omega) (by omega)
theorem nz_move {E : EV} (h : NZ V) (hW : WF B V) : NZ (moveF E V).2 := by
  unfold moveF
  split
  · exact h
  · rename_i c
    have hp2 : 2 ≤ vP V := Nat.not_lt.mp fun z => c (Or.inr z)
    have hp : vW V < vP V := by have := hW.2.2.1.2; omega
    exact NZ.U (nz_carry h hp) (by omega) (by omega) (by omega)
theorem wf_join6 (h : WF B V) (h6 : vP V < 6) : WF B (vU V 0 6 (V 0 6 + nI 1)) := by
  have e6 : vU V 0 6 (V 0 6 + nI 1) 0 6 = nI (vP V + 1) := by rw [vU_eq, h.1, nI_add]
  have hP : vP (vU V 0 6 (V 0 6 + nI 1)) = vP V + 1 := by
    show Int32.toNatClampNeg (vU V 0 6 (V 0 6 + nI 1) 0 6) = vP V + 1
    rw [e6, nI_clamp (by omega)]
  have hw : vW (vU V 0 6 (V 0 6 + nI 1)) = vW V := congrArg Int32.toNatClampNeg (vU_ne (by omega))
  obtain ⟨a1, a2, a3, a4, a5, a6, a7, a8, a9⟩ := h
  refine ⟨by rw [e6, hP], by omega, ⟨by rw [hw, vU_ne (by omega)]; exact a3.1, by rw [hw, hP]; omega⟩, by rw [vU_ne (by omega)]; exact a4, by rw [vU_ne (by omega)]; exact a5, ?_, fun p hp => ?_, fun i hi => by rw [vU_ne (by omega)]; exact a8 i hi, a9⟩
  · rw [vU_ne (by omega), hP]
    rcases a6 with e | ⟨q, hq, e⟩
    · exact Or.inl e
    · exact Or.inr ⟨q, by omega, e⟩
  · rw [vU_ne (by omega), vU_ne (by omega), vU_ne (by omega), vU_ne (by omega), vU_ne (by omega)]
    exact a7 p hp
theorem vp_join (h : WF B V) (h6 : vP V < 6) : vP (vU V 0 6 (V 0 6 + nI 1)) = vP V + 1 := by
  show Int32.toNatClampNeg (vU V 0 6 (V 0 6 + nI 1) 0 6) = vP V + 1
  rw [vU_eq, h.1, nI_add, nI_clamp (by omega)]
theorem nz_join6 (h : WF B V) (h6 : vP V < 6) (hn : NZ V) : NZ (vU V 0 6 (V 0 6 + nI 1)) := by
  intro p hp
  rw [vp_join h h6] at hp
  have a := hn p (by omega)
  exact ⟨by rw [vU_ne (by omega)]; exact a.1, fun j hj => by rw [vU_ne (by omega)]; exact a.2 j hj⟩
theorem o_person (k v e n : Int32) (O : OK B σ) (hB : B + 2 ≤ 1000000) : OK (B + 2) (f_person σ k v e n).2 := by
  unfold f_person
  split
  · rename_i c1
    split
    · rename_i c2
      rw [Bool.and_eq_true, Bool.and_eq_true] at c2
      obtain ⟨a, ha, rfl⟩ := inF_of c1 (by omega)
      obtain ⟨b, hb, rfl⟩ := inF_of c2.1.1 (by omega)
      obtain ⟨c, hc, rfl⟩ := inF_of c2.1.2 (by omega)
      obtain ⟨r, hr, rfl⟩ := inF_of c2.2 (by omega)
      show OK (B + 2) (setV σ (joinF (sV σ) (nI a) (nI b) (nI c) (nI r)).2)
      have hz := O.z.join (a := nI a) (b := nI b) (c := nI c) (e := nI r) O.w
      unfold joinF at hz ⊢
      by_cases z : sV σ 0 6 < nI 6
      · rw [if_pos z] at hz ⊢
        have h6 : vP (sV σ) < 6 := by
          rw [O.w.1] at z
          have := O.w.2.1
          exact (nI_ltI (by omega) (by omega)).mp z
        have w1 := O.w.pers (f := 1) (p := vP (sV σ)) (by omega) ⟨a, by simp; omega, rfl⟩
        have w2 := w1.pers (f := 2) (p := vP (sV σ)) (by omega) ⟨b, by simp; omega, rfl⟩
        have w3 := w2.pers (f := 3) (p := vP (sV σ)) (by omega) ⟨c, by simp; omega, rfl⟩
        have w4 := w3.pers (f := 4) (p := vP (sV σ)) (by omega) ⟨r, by simp; omega, rfl⟩
        have eP : vP (vU (vU (vU (vU (sV σ) 1 (vP (sV σ)) (nI a)) 2 (vP (sV σ)) (nI b)) 3 (vP (sV σ)) (nI c)) 4 (vP (sV σ)) (nI r)) = vP (sV σ) := by
          rw [vP_U (by omega), vP_U (by omega), vP_U (by omega), vP_U (by omega)]
        have e6 : (vU (vU (vU (vU (sV σ) 1 (vP (sV σ)) (nI a)) 2 (vP (sV σ)) (nI b)) 3 (vP (sV σ)) (nI c)) 4 (vP (sV σ)) (nI r)) 0 6 = sV σ 0 6 := by
          rw [vU_ne (by omega), vU_ne (by omega), vU_ne (by omega), vU_ne (by omega)]
        have n4 : NZ (vU (vU (vU (vU (sV σ) 1 (vP (sV σ)) (nI a)) 2 (vP (sV σ)) (nI b)) 3 (vP (sV σ)) (nI c)) 4 (vP (sV σ)) (nI r)) := ((((ok_nz O).U (by omega) (by omega) (by omega)).U (by omega) (by omega) (by omega)).U (by omega) (by omega) (by omega)).U (by omega) (by omega) (by omega)
        have w5 := wf_join6 w4 (by rw [eP]; exact h6)
        have n5 := nz_join6 w4 (by rw [eP]; exact h6) n4
        have p5 := vp_join w4 (by rw [eP]; exact h6)
        rw [e6] at w5 n5 p5
        refine ok_setV O hB (w5.up (by omega) hB) hz n5 ?_
        show _ ≤ vP (vU _ 0 6 (sV σ 0 6 + nI 1))
        rw [p5, eP]
        exact Nat.le_succ _
      · rw [if_neg z]
        exact ok_same O hB rfl
    · exact ok_same O hB rfl
  · exact ok_same O hB rfl
theorem o_set (p x n : Int32) (O : OK B σ) (hB : B + 2 ≤ 1000000) : OK (B + 2) (f_set σ p x n).2 := by
  unfold f_set
  split
  · rename_i c1
    rw [Bool.and_eq_true] at c1
    obtain ⟨q, hq, hq6, rfl⟩ := has_to O.w c1.1
    rw [nI_clamp (by omega)]
    split
    · split
      · rename_i c2
        obtain ⟨a, ha, rfl⟩ := inF_of c2 (by omega)
        exact ok_setV O hB ((O.w.pers (f := 3) (by omega) ⟨a, by simp; omega, rfl⟩).up (by omega) hB) (O.z.U (by omega)) ((ok_nz O).U (by omega) (by omega) (by omega)) (by rw [vP_U (by omega)]; exact Nat.le_refl _)
      · exact ok_same O hB rfl
    · split
      · rename_i c2
        obtain ⟨a, ha, rfl⟩ := inF_of c2 (by omega)
        exact ok_setV O hB ((O.w.pers (f := 4) (by omega) ⟨a, by simp; omega, rfl⟩).up (by omega) hB) (O.z.U (by omega)) ((ok_nz O).U (by omega) (by omega) (by omega)) (by rw [vP_U (by omega)]; exact Nat.le_refl _)
      · exact ok_same O hB rfl
  · exact ok_same O hB rfl
theorem o_row (p x n : Int32) (O : OK B σ) (hB : B + 2 ≤ 1000000) : OK (B + 2) (f_row σ p x n).2 := by
  unfold f_row
  split
  · rename_i c1
    rw [Bool.and_eq_true] at c1
    obtain ⟨q, hq, hq6, rfl⟩ := has_to O.w c1.1
    obtain ⟨j, hj, rfl⟩ := inF_of c1.2 (by omega)
    rw [nI_clamp (by omega), nI_clamp (by omega)]
    split
    · rename_i c2
      obtain ⟨a, ha, rfl⟩ := inF_of c2 (by omega)
      split
      · exact ok_setV O hB ((O.w.rowU ha).up (by omega) hB) (O.z.U (by omega)) ((ok_nz O).U (by omega) (by omega) (by omega)) (by rw [vP_U (by omega)]; exact Nat.le_refl _)
      · exact ok_same O hB rfl
    · exact ok_same O hB rfl
  · exact ok_same O hB rfl
theorem o_with (p : Int32) (O : OK B σ) (hB : B + 2 ≤ 1000000) : OK (B + 2) (f_with σ p).2 := by
  unfold f_with
  split
  · rename_i c1
    obtain ⟨q, hq, hq6, rfl⟩ := has_to O.w c1
    exact ok_setV O hB ((O.w.handN hq).up (by omega) hB) O.z.hand (((ok_nz O).U (by omega) (by omega) (by omega)).U (by omega) (by omega) (by omega)) (by show _ ≤ vP (vU (vU _ _ _ _) _ _ _); rw [vP_U (by omega), vP_U (by omega)]; exact Nat.le_refl _)
  · exact ok_same O hB rfl
theorem o_weight (n : Int32) (O : OK B σ) (hB : B + 2 ≤ 1000000) : OK (B + 2) (f_weight σ n).2 := by
  unfold f_weight
  split
  · rename_i c1
    obtain ⟨a, ha, rfl⟩ := inF_of c1 (by omega)
    exact ok_setV O hB ((O.w.weight ha).up (by omega) hB) (O.z.U (by omega)) ((ok_nz O).U (by omega) (by omega) (by omega)) (by rw [vP_U (by omega)]; exact Nat.le_refl _)
  · exact ok_same O hB rfl
theorem ok_setTx {T : TX} (O : OK B σ) (hB : B + 2 ≤ 1000000) (h : T.1 ≤ 100 ∧ ∀ i, i < T.1 → T.2 i ≤ 127) : OK (B + 2) (setTx σ T) := by
  obtain ⟨a1, a2, a3, -, a5⟩ := ok_up O (B2 := B + 2) (by omega) hB
  exact ⟨a1, a2, a3, h, a5⟩
theorem o_feed (x : Int32) (O : OK B σ) (hB : B + 2 ≤ 1000000) : OK (B + 2) (f_feed σ x).2 := by
  unfold f_feed
  split
  · rename_i c1
    obtain ⟨a, ha, rfl⟩ := inF_of c1 (by omega)
    show OK (B + 2) (setTx σ (txAdd (sXt σ) (nI a).toNatClampNeg))
    rw [nI_clamp (by omega)]
    refine ok_setTx O hB ?_
    have t9 := O.2.2.2.1
    unfold txAdd
    split
    · exact t9
    · refine ⟨by show (sXt σ).1 + 1 ≤ 100; omega, fun i hi => ?_⟩
      show (if i = (sXt σ).1 then a else (sXt σ).2 i) ≤ 127
      have hi : i < (sXt σ).1 + 1 := hi
      split
      · exact ha
      · exact t9.2 i (by omega)
  · exact ok_same O hB rfl
theorem o_step (O : OK B σ) (hB : B + 2 ≤ 1000000) : OK (B + 2) (f_step σ).2 := by
  unfold f_step
  split
  · exact ok_setV O hB (O.w.move O.ew hB) (O.z.move O.w) (nz_move (ok_nz O) O.w) (by rw [move_P]; exact Nat.le_refl _)
  · exact ok_same O hB rfl
theorem pg_app {l : PL} {x : Int32 × Int32} {i : Nat} (hi : i < l.length + 1) : pG (l ++ [x]) i = if i = l.length then x else pG l i := by
  unfold pG
  split
  · rename_i e
    subst e
    rw [List.getD_eq_getElem?_getD, List.getElem?_append_right (Nat.le_refl _), Nat.sub_self]
    rfl
  · rw [List.getD_eq_getElem?_getD, List.getElem?_append_left (by omega), ← List.getD_eq_getElem?_getD]
theorem ok_setSe {l : PL} (O : OK B σ) (hB : B + 2 ≤ 1000000) (h : l.length ≤ 6 ∧ ∀ i, i < l.length → ∃ p n, p < vP (sV σ) ∧ n ≤ 60 ∧ pG l i = (nI p, nI n)) : OK (B + 2) (setSe σ l) := by
  obtain ⟨⟨a1, a2, -, a4⟩, b⟩ := ok_up O (B2 := B + 2) (by omega) hB
  exact ⟨⟨a1, a2, h, a4⟩, b⟩
theorem ok_setGa {l : PL} (O : OK B σ) (hB : B + 2 ≤ 1000000) (h : l.length ≤ 10 ∧ ∀ i, i < l.length → ∃ p, pG l i = (nI 0, nI 0) ∨ pG l i = (nI 1, nI 0) ∨ (p < vP (sV σ) ∧ pG l i = (nI 2, nI p))) : OK (B + 2) (setGa σ l) := by
  obtain ⟨⟨a1, a2, a3, -, a5⟩, b⟩ := ok_up O (B2 := B + 2) (by omega) hB
  exact ⟨⟨a1, a2, a3, h, a5⟩, b⟩
theorem ok_setBo {l : PL} (O : OK B σ) (hB : B + 2 ≤ 1000000) (h : l.length ≤ 8 ∧ ∀ i, i < l.length → ∃ p n, p < vP (sV σ) ∧ n ≤ 9999 ∧ pG l i = (nI p, nI n)) : OK (B + 2) (setBo σ l) := by
  obtain ⟨⟨a1, a2, a3, a4, -⟩, b⟩ := ok_up O (B2 := B + 2) (by omega) hB
  exact ⟨⟨a1, a2, a3, a4, h⟩, b⟩
theorem nolen {l : PL} {i : Nat} {P : Prop} (hl : l = []) (h : i < l.length) : P := by
  subst hl
  exact absurd h (Nat.not_lt_zero _)
theorem o_see (p n : Int32) (O : OK B σ) (hB : B + 2 ≤ 1000000) : OK (B + 2) (f_see σ p n).2 := by
  have a := O.1.2.2.1
  unfold f_see
  split
  · exact ok_setSe O hB ⟨Nat.zero_le _, fun i hi => nolen rfl hi⟩
  · split
    · rename_i c1
      obtain ⟨q, hq, hq6, rfl⟩ := has_to O.w c1
      split
      · rename_i c2
        obtain ⟨m, hm, rfl⟩ := inF_of c2 (by omega)
        split
        · exact ok_same O hB rfl
        · rename_i c3
          refine ok_setSe O hB ⟨by rw [List.length_append]; show (sSe σ).length + 1 ≤ 6; omega, fun i hi => ?_⟩
          rw [List.length_append] at hi
          rw [pg_app hi]
          split
          · exact ⟨q, m, hq, hm, rfl⟩
          · rename_i c4
            have hi : i < (sSe σ).length + 1 := hi
            exact a.2 i (by show i < (sSe σ).length; omega)
      · exact ok_same O hB rfl
    · exact ok_same O hB rfl
theorem o_book (p n : Int32) (O : OK B σ) (hB : B + 2 ≤ 1000000) : OK (B + 2) (f_book σ p n).2 := by
  have a := O.1.2.2.2.2
  unfold f_book
  split
  · exact ok_setBo O hB ⟨Nat.zero_le _, fun i hi => nolen rfl hi⟩
  · split
    · rename_i c1
      obtain ⟨q, hq, hq6, rfl⟩ := has_to O.w c1
      split
      · rename_i c2
        obtain ⟨m, hm, rfl⟩ := inF_of c2 (by omega)
        split
        · exact ok_same O hB rfl
        · rename_i c3
          refine ok_setBo O hB ⟨by rw [List.length_append]; show (sBo σ).length + 1 ≤ 8; omega, fun i hi => ?_⟩
          rw [List.length_append] at hi
          rw [pg_app hi]
          split
          · exact ⟨q, m, hq, hm, rfl⟩
          · rename_i c4
            have hi : i < (sBo σ).length + 1 := hi
            exact a.2 i (by show i < (sBo σ).length; omega)
      · exact ok_same O hB rfl
    · exact ok_same O hB rfl
theorem o_game (x p : Int32) (O : OK B σ) (hB : B + 2 ≤ 1000000) : OK (B + 2) (f_game σ x p).2 := by
  have a := O.1.2.2.2.1
  unfold f_game
  split
  · exact ok_setGa O hB ⟨Nat.zero_le _, fun i hi => nolen rfl hi⟩
  · split
    · rename_i c1
      rw [Bool.and_eq_true] at c1
      obtain ⟨m, hm, rfl⟩ := inF_of c1.1 (by omega)
      split
      · exact ok_same O hB rfl
      · rename_i c3
        refine ok_setGa O hB ⟨by rw [List.length_append]; show (sGa σ).length + 1 ≤ 10; omega, fun i hi => ?_⟩
        rw [List.length_append] at hi
        rw [pg_app hi]
        split
        · rcases (show m = 0 ∨ m = 1 ∨ m = 2 by omega) with rfl | rfl | rfl
          · exact ⟨0, Or.inl (by rw [if_neg (by decide)])⟩
          · exact ⟨0, Or.inr (Or.inl (by rw [if_neg (by decide)]))⟩
          · have c2 := c1.2
            rw [decide_eq_true rfl] at c2
            have c2 : hasF p (sV σ 0 6) = true := c2
            obtain ⟨q, hq, hq6, rfl⟩ := has_to O.w c2
            exact ⟨q, Or.inr (Or.inr ⟨hq, by rw [if_pos rfl]⟩)⟩
        · rename_i c4
          have hi : i < (sGa σ).length + 1 := hi
          exact a.2 i (by show i < (sGa σ).length; omega)
    · exact ok_same O hB rfl
theorem o_image (O : OK B σ) (hB : B + 2 ≤ 1000000) : OK (B + 2) (f_image σ).2 := by
  obtain ⟨a1, a2, a3⟩ := ok_up O (B2 := B + 2) (by omega) hB
  refine ⟨a1, fun s hs => ?_, a3⟩
  have e : s = σ.1 := (Option.some.inj hs).symm
  rw [e]
  exact a1
theorem o_undo (O : OK B σ) (hB : B + 2 ≤ 1000000) : OK (B + 2) (f_undo σ).2 := by
  have O2 := ok_up O (B2 := B + 2) (by omega) hB
  obtain ⟨a1, a2, a3⟩ := O2
  unfold f_undo
  split
  · exact ok_same O hB rfl
  · rename_i s e
    exact ⟨a2 s e, a2, a3⟩
theorem o_act (p a x : Int32) (O : OK B σ) (hB : B + 2 ≤ 1000000) : OK (B + 2) (f_act σ p a x).2 := by
  obtain ⟨a1, a2, a3, a4, a5, a6⟩ := ok_up O (B2 := B + 2) (by omega) hB
  unfold f_act
  split
  · rename_i c1
    rw [Bool.and_eq_true] at c1
    obtain ⟨q, hq, hq6, rfl⟩ := has_to O.w c1.1
    obtain ⟨m, hm, rfl⟩ := inF_of c1.2 (by omega)
    obtain ⟨⟨k, hk, ek⟩, -⟩ := O.w.2.2.2.2.2.2.1 q hq6
    refine ⟨a1, a2, a3, a4, ?_, a6⟩
    show (runL _ _ _ 12 _ _ _ _).2.length ≤ 20
    rw [nI_clamp (show q < 2 ^ 31 by omega), ek, nI_clamp (show k < 2 ^ 31 by omega), nI_clamp (show m < 2 ^ 31 by omega)]
    exact runL_len hm hk
  · exact ⟨a1, a2, a3, a4, Nat.zero_le _, a6⟩
theorem ok_setTp {T : TT} (O : OK B σ) (hB : B + 2 ≤ 1000000) (h : WT T) : OK (B + 2) (setTp σ T) := by
  obtain ⟨a1, a2, a3, a4, a5, -⟩ := ok_up O (B2 := B + 2) (by omega) hB
  exact ⟨a1, a2, a3, a4, a5, h⟩
theorem inF_m1 {x : Int32} (h : inF x (-1) (nI 4) = true) : x = -1 ∨ ∃ s, s ≤ 4 ∧ x = nI s := by
  by_cases c : x < 0
  · left
    unfold inF at h
    rw [Bool.and_eq_true] at h
    obtain ⟨e1, e2⟩ := h
    simp only [Bool.not_eq_true', decide_eq_false_iff_not] at e1 e2
    have a1 : ¬ x.toInt < (-1 : Int32).toInt := fun z => e1 (Int32.lt_iff_toInt_lt.mpr z)
    have a2 : x.toInt < (0 : Int32).toInt := Int32.lt_iff_toInt_lt.mp c
    have b1 : (-1 : Int32).toInt = -1 := by decide
    have b2 : (0 : Int32).toInt = 0 := by decide
    exact Int32.toInt_inj.mp (by omega)
  · right
    refine inF_of (b := 4) ?_ (by omega)
    unfold inF at h ⊢
    rw [Bool.and_eq_true] at h ⊢
    exact ⟨by rw [show nI 0 = 0 from rfl, decide_eq_false c]; rfl, h.2⟩
theorem wt_make {T : TT} {x s n : Int32} (h : WT T) : WT (makeF T x s n).2 := by
  unfold makeF
  split
  · rename_i c1
    obtain ⟨t, ht, rfl⟩ := inF_of c1 (by omega)
    rw [nI_clamp (show t < 2 ^ 31 by omega)]
    split
    · rename_i c2
      split
      · rename_i c3
        subst c3
        intro u hu
        show ((upd T.1 t (-1) u = -1 ∧ upd T.2.1 t (nI 0) u = nI 0) ∨ ∃ s, s ≤ 4 ∧ upd T.1 t (-1) u = nI s) ∧ ∃ n, n ≤ 60 ∧ upd T.2.1 t (nI 0) u = nI n
        unfold upd
        by_cases e : u = t
        · rw [if_pos e, if_pos e]
          exact ⟨Or.inl ⟨rfl, rfl⟩, 0, by omega, rfl⟩
        · rw [if_neg e, if_neg e]
          exact h u hu
      · rename_i c3
        split
        · exact h
        · rename_i c4
          split
          · exact h
          · rename_i c5
            obtain ⟨m, hm, rfl⟩ := nI_of c5
            have m60 : m ≤ 60 := Nat.not_lt.mp fun z => c4 (nI_lt z hm)
            rcases inF_m1 c2 with e9 | ⟨s1, hs1, rfl⟩
            · exact absurd e9 c3
            · intro u hu
              show ((upd T.1 t (nI s1) u = -1 ∧ upd T.2.1 t (nI m) u = nI 0) ∨ ∃ s, s ≤ 4 ∧ upd T.1 t (nI s1) u = nI s) ∧ ∃ n, n ≤ 60 ∧ upd T.2.1 t (nI m) u = nI n
              unfold upd
              by_cases e : u = t
              · rw [if_pos e, if_pos e]
                exact ⟨Or.inr ⟨s1, hs1, rfl⟩, m, m60, rfl⟩
              · rw [if_neg e, if_neg e]
                exact h u hu
    · exact h
  · exact h
theorem o_tape (t s n : Int32) (O : OK B σ) (hB : B + 2 ≤ 1000000) : OK (B + 2) (f_tape σ t s n).2 := ok_setTp O hB (wt_make O.2.2.2.2.2)
theorem wt_put {T : TT} {x i : Int32} {v : Int64} (h : WT T) : WT (putF T x i v).2 := by
  unfold putF
  repeat' split
  all_goals exact h
theorem o_item (t i : Int32) (v : Int64) (O : OK B σ) (hB : B + 2 ≤ 1000000) : OK (B + 2) (f_item σ t i v).2 := ok_setTp O hB (wt_put O.2.2.2.2.2)
theorem wt_bring {T : TT} {x i y j n : Int32} (h : WT T) : WT (bringF T x i y j n).2 := by
  unfold bringF
  repeat' split
  all_goals exact h
theorem o_shift (t i o j n : Int32) (O : OK B σ) (hB : B + 2 ≤ 1000000) : OK (B + 2) (f_shift σ t i o j n).2 := ok_setTp O hB (wt_bring O.2.2.2.2.2)
theorem ew_of {T : TX} (h : standF T = true) : EW (evOf T) := by
  obtain ⟨-, a, b⟩ := comp_ok (stand_1 h).1
  exact ⟨⟨_, a, rfl⟩, _, b, rfl⟩
theorem o_evening (O : OK B σ) (hB : B + 2 ≤ 1000000) : OK (B + 2) (f_evening σ).2 := by
  unfold f_evening
  split
  · exact ok_same O hB rfl
  · rename_i c1
    split
    · rename_i c2
      obtain ⟨⟨a1, a2, a3⟩, b, c, d, e⟩ := ok_up O (B2 := B + 2) (by omega) hB
      have hl : (sEv σ ++ [evOf (sXt σ)]).length = (sEv σ).length + 1 := by rw [List.length_append]; rfl
      refine ⟨⟨a1, fun k hk => ?_, a3⟩, fun s hs => ?_, ⟨?_, fun k hk => ?_⟩, ⟨Nat.zero_le _, fun i hi => absurd hi (Nat.not_lt_zero _)⟩, e⟩
      · have ek : k = (sEv σ).length := (Option.some.inj hk).symm
        show k < (sEv σ ++ [evOf (sXt σ)]).length
        omega
      · exact oks_up (b s hs) (Nat.le_refl _) hB (by show (sEv σ).length ≤ (sEv σ ++ [evOf (sXt σ)]).length; omega)
      · show (sEv σ ++ [evOf (sXt σ)]).length ≤ 6
        omega
      · have hk : k < (sEv σ ++ [evOf (sXt σ)]).length := hk
        show EW ((sEv σ ++ [evOf (sXt σ)]).getD k E0)
        by_cases z : k = (sEv σ).length
        · subst z
          rw [List.getD_eq_getElem?_getD, List.getElem?_append_right (Nat.le_refl _), Nat.sub_self]
          exact ew_of c2
        · rw [List.getD_eq_getElem?_getD, List.getElem?_append_left (by omega), ← List.getD_eq_getElem?_getD]
          exact c.2 k (by omega)
    · exact ok_setTx O hB ⟨Nat.zero_le _, fun i hi => absurd hi (Nat.not_lt_zero _)⟩
end S66
theorem o_of (p x : Int32) {σ : SG} {B : Nat} (O : OK B σ) (hB : B + 2 ≤ 1000000) : OK (B + 2) (f_of σ p x).2 := by
  refine ok_same O hB ?_
  unfold f_of
  repeat (first | rfl | split)
theorem o_told (x : Int32) {σ : SG} {B : Nat} (O : OK B σ) (hB : B + 2 ≤ 1000000) : OK (B + 2) (f_told σ x).2 := by
  refine ok_same O hB ?_
  unfold f_told
  repeat (first | rfl | split)
theorem o_on (n x : Int32) {σ : SG} {B : Nat} (O : OK B σ) (hB : B + 2 ≤ 1000000) : OK (B + 2) (f_on σ n x).2 := by
  refine ok_same O hB ?_
  unfold f_on
  repeat (first | rfl | split)
theorem o_ends  {σ : SG} {B : Nat} (O : OK B σ) (hB : B + 2 ≤ 1000000) : OK (B + 2) (f_ends σ ).2 := by
  refine ok_same O hB ?_
  unfold f_ends
  repeat (first | rfl | split)
theorem o_longest  {σ : SG} {B : Nat} (O : OK B σ) (hB : B + 2 ≤ 1000000) : OK (B + 2) (f_longest σ ).2 := by
  refine ok_same O hB ?_
  unfold f_longest
  repeat (first | rfl | split)
theorem o_stand (p n x : Int32) {σ : SG} {B : Nat} (O : OK B σ) (hB : B + 2 ≤ 1000000) : OK (B + 2) (f_stand σ p n x).2 := by
  refine ok_same O hB ?_
  unfold f_stand
  repeat (first | rfl | split)
theorem o_needs (p n : Int32) {σ : SG} {B : Nat} (O : OK B σ) (hB : B + 2 ≤ 1000000) : OK (B + 2) (f_needs σ p n).2 := by
  refine ok_same O hB ?_
  unfold f_needs
  repeat (first | rfl | split)
theorem o_heavy (p : Int32) {σ : SG} {B : Nat} (O : OK B σ) (hB : B + 2 ≤ 1000000) : OK (B + 2) (f_heavy σ p).2 := by
  refine ok_same O hB ?_
  unfold f_heavy
  repeat (first | rfl | split)
theorem o_change  {σ : SG} {B : Nat} (O : OK B σ) (hB : B + 2 ≤ 1000000) : OK (B + 2) (f_change σ ).2 := by
  refine ok_same O hB ?_
  unfold f_change
  repeat (first | rfl | split)
theorem o_mute (n : Int32) {σ : SG} {B : Nat} (O : OK B σ) (hB : B + 2 ≤ 1000000) : OK (B + 2) (f_mute σ n).2 := by
  refine ok_same O hB ?_
  unfold f_mute
  repeat (first | rfl | split)
theorem o_from  {σ : SG} {B : Nat} (O : OK B σ) (hB : B + 2 ≤ 1000000) : OK (B + 2) (f_from σ ).2 := by
  refine ok_same O hB ?_
  unfold f_from
  repeat (first | rfl | split)
theorem o_had (p x : Int32) {σ : SG} {B : Nat} (O : OK B σ) (hB : B + 2 ≤ 1000000) : OK (B + 2) (f_had σ p x).2 := by
  refine ok_same O hB ?_
  unfold f_had
  repeat (first | rfl | split)
theorem o_odds (n x : Int32) {σ : SG} {B : Nat} (O : OK B σ) (hB : B + 2 ≤ 1000000) : OK (B + 2) (f_odds σ n x).2 := by
  refine ok_same O hB ?_
  unfold f_odds
  repeat (first | rfl | split)
theorem o_mean (n x : Int32) {σ : SG} {B : Nat} (O : OK B σ) (hB : B + 2 ≤ 1000000) : OK (B + 2) (f_mean σ n x).2 := by
  refine ok_same O hB ?_
  unfold f_mean
  repeat (first | rfl | split)
theorem o_gone (x : Int32) {σ : SG} {B : Nat} (O : OK B σ) (hB : B + 2 ≤ 1000000) : OK (B + 2) (f_gone σ x).2 := by
  refine ok_same O hB ?_
  unfold f_gone
  repeat (first | rfl | split)
theorem o_looked  {σ : SG} {B : Nat} (O : OK B σ) (hB : B + 2 ≤ 1000000) : OK (B + 2) (f_looked σ ).2 := by
  refine ok_same O hB ?_
  unfold f_looked
  repeat (first | rfl | split)
theorem o_judge (t i : Int32) {σ : SG} {B : Nat} (O : OK B σ) (hB : B + 2 ≤ 1000000) : OK (B + 2) (f_judge σ t i).2 := by
  refine ok_same O hB ?_
  unfold f_judge
  repeat (first | rfl | split)
theorem o_trace (x : Int32) {σ : SG} {B : Nat} (O : OK B σ) (hB : B + 2 ≤ 1000000) : OK (B + 2) (f_trace σ x).2 := by
  refine ok_same O hB ?_
  unfold f_trace
  repeat (first | rfl | split)
theorem o_taken (p k : Int32) {σ : SG} {B : Nat} (O : OK B σ) (hB : B + 2 ≤ 1000000) : OK (B + 2) (f_taken σ p k).2 := by
  refine ok_same O hB ?_
  unfold f_taken
  repeat (first | rfl | split)
theorem o_count (x : Int32) {σ : SG} {B : Nat} (O : OK B σ) (hB : B + 2 ≤ 1000000) : OK (B + 2) (f_count σ x).2 := by
  refine ok_same O hB ?_
  unfold f_count
  repeat (first | rfl | split)
theorem o_read (t i : Int32) {σ : SG} {B : Nat} (O : OK B σ) (hB : B + 2 ≤ 1000000) : OK (B + 2) (f_read σ t i).2 := by
  refine ok_same O hB ?_
  unfold f_read
  repeat (first | rfl | split)
