/-! factors and expressions -/
def andF (T : TX) (fac : Nat → List Nat → PR) : Nat → Nat → List Nat → PR
  | 0, p, out => (true, p, out)
  | k + 1, p, out => if aheadN T p = 38 then (if (fac (p + 1) out).1 = true then andF T fac k (fac (p + 1) out).2.1 ((fac (p + 1) out).2.2 ++ [3 * 65536 + 0 * 256 + 0]) else fac (p + 1) out) else (true, p, out)
def termF (T : TX) (fac : Nat → List Nat → PR) (p : Nat) (out : List Nat) : PR := if (fac p out).1 = true then andF T fac 99 (fac p out).2.1 (fac p out).2.2 else fac p out
def orF (T : TX) (fac : Nat → List Nat → PR) : Nat → Nat → List Nat → PR
  | 0, p, out => if aheadN T p = 124 then (false, p + 1, out) else (true, p, out)
  | k + 1, p, out => if aheadN T p = 124 then (if (termF T fac (p + 1) out).1 = true then orF T fac k (termF T fac (p + 1) out).2.1 ((termF T fac (p + 1) out).2.2 ++ [4 * 65536 + 0 * 256 + 0]) else termF T fac (p + 1) out) else (true, p, out)
def exprF (T : TX) (fac : Nat → List Nat → PR) (p : Nat) (out : List Nat) : PR := if (termF T fac p out).1 = true then orF T fac 99 (termF T fac p out).2.1 (termF T fac p out).2.2 else termF T fac p out
def factorF (T : TX) : Nat → Nat → List Nat → PR
  | 0 => fun p out => if aheadN T p = 33 ∨ aheadN T p = 40 then (false, p, out) else testF T p out
  | D + 1 => fun p out =>
    if aheadN T p = 33 then (if (factorF T D (p + 1) out).1 = true then (true, (factorF T D (p + 1) out).2.1, (factorF T D (p + 1) out).2.2 ++ [5 * 65536 + 0 * 256 + 0]) else factorF T D (p + 1) out)
    else if aheadN T p = 40 then (if (exprF T (factorF T D) (p + 1) out).1 = true then takeF T 41 (exprF T (factorF T D) (p + 1) out).2.1 (exprF T (factorF T D) (p + 1) out).2.2 else exprF T (factorF T D) (p + 1) out)
    else testF T p out
/-- no more is emitted than read -/
def Grow (f : Nat → List Nat → PR) : Prop := ∀ p out, (f p out).2.2.length + p ≤ out.length + (f p out).2.1
theorem grow_test {T : TX} : Grow (testF T) := by
  intro p out
  unfold testF
  split
  · split
    · split
      · rename_i h
        have := num_p.1 h
        show (out ++ [_]).length + p ≤ out.length + (numF T (p + 2)).2.1
        rw [List.length_append]
        show out.length + 1 + p ≤ _
        omega
      · show out.length + p ≤ out.length + (p + 2)
        omega
    · show out.length + p ≤ out.length + (p + 1)
      omega
  · exact Nat.le_refl _
theorem grow_take {T : TX} {k : Nat} : Grow (takeF T k) := by
  intro p out
  unfold takeF
  split
  · show out.length + p ≤ out.length + (p + 1)
    omega
  · exact Nat.le_refl _
theorem grow_and {T : TX} {fac : Nat → List Nat → PR} (g : Grow fac) : ∀ k, Grow (andF T fac k) := by
  intro k
  induction k with
  | zero => intro p out; exact Nat.le_refl _
  | succ k ih =>
    intro p out
    unfold andF
    have g1 := g (p + 1) out
    split
    · split
      · have i1 := ih (fac (p + 1) out).2.1 ((fac (p + 1) out).2.2 ++ [3 * 65536 + 0 * 256 + 0])
        rw [List.length_append] at i1
        have i2 : _ ≤ (fac (p + 1) out).2.2.length + 1 + _ := i1
        omega
      · omega
    · exact Nat.le_refl _
theorem grow_term {T : TX} {fac : Nat → List Nat → PR} (g : Grow fac) : Grow (termF T fac) := by
  intro p out
  unfold termF
  have g1 := g p out
  split
  · have i1 := grow_and (T := T) g 99 (fac p out).2.1 (fac p out).2.2
    omega
  · exact g1
theorem grow_or {T : TX} {fac : Nat → List Nat → PR} (g : Grow fac) : ∀ k, Grow (orF T fac k) := by
  intro k
  induction k with
  | zero =>
    intro p out
    unfold orF
    split
    · show out.length + p ≤ out.length + (p + 1)
      omega
    · exact Nat.le_refl _
  | succ k ih =>
    intro p out
    unfold orF
    have g1 := grow_term (T := T) g (p + 1) out
    split
    · split
      · have i1 := ih (termF T fac (p + 1) out).2.1 ((termF T fac (p + 1) out).2.2 ++ [4 * 65536 + 0 * 256 + 0])
        rw [List.length_append] at i1
        have i2 : _ ≤ (termF T fac (p + 1) out).2.2.length + 1 + _ := i1
        omega
      · omega
    · exact Nat.le_refl _
theorem grow_expr {T : TX} {fac : Nat → List Nat → PR} (g : Grow fac) : Grow (exprF T fac) := by
  intro p out
  unfold exprF
  have g1 := grow_term (T := T) g p out
  split
  · have i1 := grow_or (T := T) g 99 (termF T fac p out).2.1 (termF T fac p out).2.2
    omega
  · exact g1
theorem grow_fac {T : TX} : ∀ D, Grow (factorF T D) := by
  intro D
  induction D with
  | zero =>
    intro p out
    unfold factorF
    split
    · exact Nat.le_refl _
    · exact grow_test p out
  | succ D ih =>
    intro p out
    unfold factorF
    split
    · have i1 := ih (p + 1) out
      split
      · show ((factorF T D (p + 1) out).2.2 ++ [_]).length + p ≤ out.length + (factorF T D (p + 1) out).2.1
        rw [List.length_append]
        show (factorF T D (p + 1) out).2.2.length + 1 + p ≤ _
        omega
      · omega
    · split
      · have i1 := grow_expr (T := T) ih (p + 1) out
        split
        · have i2 := grow_take (T := T) (k := 41) (exprF T (factorF T D) (p + 1) out).2.1 (exprF T (factorF T D) (p + 1) out).2.2
          omega
        · omega
      · exact grow_test p out
def FcC (h : hp_T) (T : TX) (e : Nat) (x : Int32) (fac : Nat → List Nat → PR) : Prop := ∀ (p : Nat) (out : List Nat) (M : Mem), RdS T p out M → Ei e nX3_factor [.ref 65, .int x] (wi h M) (fun r M1 => r = b2 (fac p out).1 ∧ RdP T (fac p out) M M1)
theorem l_and : ∀ (e : Nat) {h : hp_T} {T : TX} {x t : Int32} {fac : Nat → List Nat → PR} {M0 : Mem} (C : CS h) (F : FcC h T (e + 1) x fac) (G : Grow fac) {w : wc_T} {κ : cx_T} {Φ : Option Value → hp_T → Prop} (X : CX w κ (e + 2) 3 cX3_expression 4 (some .boolean) Φ) {R : PR}
    (hF : R.1 = false → ∀ M1, RdP T R M0 M1 → Φ (some (.int (nI 0))) (wi h M1)) (hT : R.1 = true → ∀ M1 z, RdP T R M0 M1 → GG w κ 58 [some (.ref 65), some (.int x), some (.int t), some (.int z)] [] (wi h M1)), ∀ (k j p : Nat) (out : List Nat) (M : Mem), j + k = 100 → RdS T p out M → RdK M0 M → andF T fac k p out = R → GG w κ 20 [some (.ref 65), some (.int x), some (.int t), some (.int (nI j))] [] (wi h M) := by
  intro e h T x t fac M0 C F G w κ Φ X R hF hT k
  induction k with
  | zero =>
    intro j p out M hj S K hR
    subst hR
    refine r_iload_n (pc := 20) X dX3_expression_20 rfl ?_
    refine r_bipush (pc := 21) (v := (nI 100)) X dX3_expression_21 (by decide) ?_
    refine r_icmp_geN (pc := 23) X dX3_expression_23 (tgt := 58) (by decide) (by omega) (by omega) (fun c23 => ?_) (fun c23 => ?_)
    · exact hT rfl M _ ⟨S, K⟩
    · exact absurd (show 100 ≤ j by omega) c23
  | succ k ih =>
    intro j p out M hj S K hR
    have n3 := S.ule
    by_cases ea : aheadN T p = 38
    · have et : takeF T 38 p out = (true, p + 1, out) := if_pos ea
      have hR : (if (fac (p + 1) out).1 = true then andF T fac k (fac (p + 1) out).2.1 ((fac (p + 1) out).2.2 ++ [3 * 65536 + 0 * 256 + 0]) else fac (p + 1) out) = R := (if_pos ea).symm.trans hR
      have g1 := G (p + 1) out
      refine r_iload_n (pc := 20) X dX3_expression_20 rfl ?_
      refine r_bipush (pc := 21) (v := (nI 100)) X dX3_expression_21 (by decide) ?_
      refine r_icmp_geN (pc := 23) X dX3_expression_23 (tgt := 58) (by decide) (by omega) (by omega) (fun c23 => ?_) (fun c23 => ?_)
      · exact absurd c23 (by omega)
      · refine r_aload_n (pc := 26) X dX3_expression_26 rfl ?_
        refine r_bipush (pc := 27) (v := (nI 38)) X dX3_expression_27 (by decide) ?_
        refine r_c0_1IW (pc := 29) X rfl dX3_expression_29 tc_3_41 mm_X3_take (kc_65 C) rfl rfl (e_take (e + 1) C S (k := 38) (by decide)) (Nat.le_of_ble_eq_true rfl) (fun r29 M29 q29 => ?_)
        refine r_if_eq (pc := 32) X dX3_expression_32 (tgt := 58) (by decide) (fun c32 => ?_) (fun c32 => ?_)
        · exact absurd c32 (by rw [q29.1, et]; exact b2_n.mpr rfl)
        · rw [et] at q29
          have S1 := q29.2.1
          refine r_aload_n (pc := 35) X dX3_expression_35 rfl ?_
          refine r_iload_n (pc := 36) X dX3_expression_36 rfl ?_
          refine r_c0_1IW (pc := 37) X rfl dX3_expression_37 tc_3_91 mm_X3_factor (kc_65 C) rfl rfl (F (p + 1) out _ S1) (Nat.le_of_ble_eq_true rfl) (fun r37 M37 q37 => ?_)
          refine r_if_ne (pc := 40) X dX3_expression_40 (tgt := 45) (by decide) (fun c40 => ?_) (fun c40 => ?_)
          · have e4 : (fac (p + 1) out).1 = true := by rw [q37.1] at c40; exact b2_n.mp c40
            rw [if_pos e4] at hR
            refine r_aload_n (pc := 45) X dX3_expression_45 rfl ?_
            refine r_iconst (pc := 46) (v := (nI 3)) X dX3_expression_46 (by decide) ?_
            refine r_iconst (pc := 47) (v := (nI 0)) X dX3_expression_47 (by decide) ?_
            refine r_iconst (pc := 48) (v := (nI 0)) X dX3_expression_48 (by decide) ?_
            refine r_c0_3VW (pc := 49) X rfl dX3_expression_49 tc_3_71 mm_X3_emit (kc_65 C) rfl rfl (e_emit e C q37.2.1 (s := 3) (l := 0) (v := 0) (by decide) (by decide) (by decide) (by omega)) (Nat.le_of_ble_eq_true rfl) (fun M49 q49 => ?_)
            refine r_iinc (pc := 52) X dX3_expression_52 rfl (by first | exact nI_i1 _ | rfl) ?_
            refine r_goto (pc := 55) X dX3_expression_55 (tgt := 20) (by decide) ?_
            exact ih (j + 1) _ _ _ (by omega) q49.1 (((K.tr q29.2.2).tr q37.2.2).tr q49.2) hR
          · refine r_iconst (pc := 43) (v := (nI 0)) X dX3_expression_43 (by decide) ?_
            refine r_iret (pc := 44) X dX3_expression_44 rfl rfl ?_
            have e4 : (fac (p + 1) out).1 = false := by rw [q37.1] at c40; exact b2_z.mp c40
            rw [if_neg (by rw [e4]; decide)] at hR
            subst hR
            exact hF e4 _ ⟨q37.2.1, (K.tr q29.2.2).tr q37.2.2⟩
    · have et : takeF T 38 p out = (false, p, out) := if_neg ea
      have hR : (true, p, out) = R := (if_neg ea).symm.trans hR
      subst hR
      refine r_iload_n (pc := 20) X dX3_expression_20 rfl ?_
      refine r_bipush (pc := 21) (v := (nI 100)) X dX3_expression_21 (by decide) ?_
      refine r_icmp_geN (pc := 23) X dX3_expression_23 (tgt := 58) (by decide) (by omega) (by omega) (fun c23 => ?_) (fun c23 => ?_)
      · exact absurd c23 (by omega)
      · refine r_aload_n (pc := 26) X dX3_expression_26 rfl ?_
        refine r_bipush (pc := 27) (v := (nI 38)) X dX3_expression_27 (by decide) ?_
        refine r_c0_1IW (pc := 29) X rfl dX3_expression_29 tc_3_41 mm_X3_take (kc_65 C) rfl rfl (e_take (e + 1) C S (k := 38) (by decide)) (Nat.le_of_ble_eq_true rfl) (fun r29 M29 q29 => ?_)
        refine r_if_eq (pc := 32) X dX3_expression_32 (tgt := 58) (by decide) (fun c32 => ?_) (fun c32 => ?_)
        · rw [et] at q29
          exact hT rfl _ _ ⟨q29.2.1, K.tr q29.2.2⟩
        · exact absurd (by rw [q29.1, et]; rfl) c32
theorem l_69 : ∀ (e : Nat) {h : hp_T} {T : TX} {x z : Int32} {t p : Nat} {out : List Nat} {M : Mem} (C : CS h) (S : RdS T p out M) {w : wc_T} {κ : cx_T} {Φ : Option Value → hp_T → Prop} (X : CX w κ (e + 2) 3 cX3_expression 4 (some .boolean) Φ) (hN : ¬ aheadN T p = 124 → ∀ M1, RdP T (true, p, out) M M1 → Φ (some (.int (nI 1))) (wi h M1)) (hA : aheadN T p = 124 → ∀ M1, RdP T (true, p + 1, out) M M1 → GG w κ 2 [some (.ref 65), some (.int x), some (.int (nI (t + 1))), some (.int z)] [] (wi h M1)), GG w κ 69 [some (.ref 65), some (.int x), some (.int (nI t)), some (.int z)] [] (wi h M) := by
  intro e h T x z t p out M C S w κ Φ X hN hA
  by_cases ea : aheadN T p = 124
  · have et : takeF T 124 p out = (true, p + 1, out) := if_pos ea
    refine r_aload_n (pc := 69) X dX3_expression_69 rfl ?_
    refine r_bipush (pc := 70) (v := (nI 124)) X dX3_expression_70 (by decide) ?_
    refine r_c0_1IW (pc := 72) X rfl dX3_expression_72 tc_3_41 mm_X3_take (kc_65 C) rfl rfl (e_take (e + 1) C S (k := 124) (by decide)) (Nat.le_of_ble_eq_true rfl) (fun r72 M72 q72 => ?_)
    refine r_if_ne (pc := 75) X dX3_expression_75 (tgt := 80) (by decide) (fun c75 => ?_) (fun c75 => ?_)
    · refine r_iinc (pc := 80) X dX3_expression_80 rfl (by first | exact nI_i1 _ | rfl) ?_
      refine r_goto (pc := 83) X dX3_expression_83 (tgt := 2) (by decide) ?_
      rw [et] at q72
      exact hA ea _ q72.2
    · exact absurd c75 (by rw [q72.1, et]; exact b2_n.mpr rfl)
  · have et : takeF T 124 p out = (false, p, out) := if_neg ea
    refine r_aload_n (pc := 69) X dX3_expression_69 rfl ?_
    refine r_bipush (pc := 70) (v := (nI 124)) X dX3_expression_70 (by decide) ?_
    refine r_c0_1IW (pc := 72) X rfl dX3_expression_72 tc_3_41 mm_X3_take (kc_65 C) rfl rfl (e_take (e + 1) C S (k := 124) (by decide)) (Nat.le_of_ble_eq_true rfl) (fun r72 M72 q72 => ?_)
    refine r_if_ne (pc := 75) X dX3_expression_75 (tgt := 80) (by decide) (fun c75 => ?_) (fun c75 => ?_)
    · exact absurd (by rw [q72.1, et]; rfl) c75
    · refine r_iconst (pc := 78) (v := (nI 1)) X dX3_expression_78 (by decide) ?_
      refine r_iret (pc := 79) X dX3_expression_79 rfl rfl ?_
      rw [et] at q72
      exact hN ea _ q72.2
def contF (T : TX) (fac : Nat → List Nat → PR) (t k p : Nat) (out : List Nat) : PR := if (termF T fac p out).1 = true then orF T fac k (termF T fac p out).2.1 (if t = 0 then (termF T fac p out).2.2 else (termF T fac p out).2.2 ++ [4 * 65536 + 0 * 256 + 0]) else termF T fac p out
theorem l_or : ∀ (e : Nat) {h : hp_T} {T : TX} {x : Int32} {fac : Nat → List Nat → PR} {M0 : Mem} (C : CS h) (F : FcC h T (e + 1) x fac) (G : Grow fac) {w : wc_T} {κ : cx_T} {Φ : Option Value → hp_T → Prop} (X : CX w κ (e + 2) 3 cX3_expression 4 (some .boolean) Φ) {R : PR}
    (hΦ : ∀ M1, RdP T R M0 M1 → Φ (some (.int (b2 R.1))) (wi h M1)), ∀ (k t p : Nat) (out : List Nat) (M : Mem) (x3 : Option Value), t + k = 99 → RdS T p out M → RdK M0 M → (t = 0 ∨ out.length + 1 ≤ p) → contF T fac t k p out = R → GG w κ 2 [some (.ref 65), some (.int x), some (.int (nI t)), x3] [] (wi h M) := by
  intro e h T x fac M0 C F G w κ Φ X R hΦ k
  induction k with
  | zero =>
    intro t p out M x3 hk S K ht hR
    have g0 := G p out
    have n3 := S.ule
    have gt := grow_term (T := T) G p out
    refine r_iload_n (pc := 2) X dX3_expression_2 rfl ?_
    refine r_bipush (pc := 3) (v := (nI 100)) X dX3_expression_3 (by decide) ?_
    refine r_icmp_geN (pc := 5) X dX3_expression_5 (tgt := 86) (by decide) (by omega) (by omega) (fun c5 => ?_) (fun c5 => ?_)
    · exact absurd c5 (by omega)
    · refine r_aload_n (pc := 8) X dX3_expression_8 rfl ?_
      refine r_iload_n (pc := 9) X dX3_expression_9 rfl ?_
      refine r_c0_1IW (pc := 10) X rfl dX3_expression_10 tc_3_91 mm_X3_factor (kc_65 C) rfl rfl (F p out M S) (Nat.le_of_ble_eq_true rfl) (fun r10 M10 q10 => ?_)
      refine r_if_ne (pc := 13) X dX3_expression_13 (tgt := 18) (by decide) (fun c13 => ?_) (fun c13 => ?_)
      · have e4 : (fac p out).1 = true := by rw [q10.1] at c13; exact b2_n.mp c13
        refine r_iconst (pc := 18) (v := (nI 1)) X dX3_expression_18 (by decide) ?_
        refine r_istore_n (pc := 19) X dX3_expression_19 (Nat.le_of_ble_eq_true rfl) ?_
        have et : termF T fac p out = andF T fac 99 (fac p out).2.1 (fac p out).2.2 := by unfold termF; rw [if_pos e4]
        refine l_and e C F G X (M0 := M) (R := termF T fac p out) (fun z M2 q2 => ?_) (fun z M2 zz q2 => ?_) 99 1 _ _ _ (by omega) q10.2.1 q10.2.2 et.symm
        · have hR : termF T fac p out = R := (if_neg (by rw [z]; decide)).symm.trans hR
          subst hR
          have := hΦ M2 ⟨q2.1, K.tr q2.2⟩
          rw [z] at this
          exact this
        · have hR : orF T fac 0 (termF T fac p out).2.1 (if t = 0 then (termF T fac p out).2.2 else (termF T fac p out).2.2 ++ [4 * 65536 + 0 * 256 + 0]) = R := (if_pos z).symm.trans hR
          have g2 := q2.1.ule
          generalize termF T fac p out = r2 at *
          by_cases h0 : t = 0
          · subst h0
            rw [if_pos rfl] at hR
            refine r_iload_n (pc := 58) X dX3_expression_58 rfl ?_
            refine r_if_le (pc := 59) X dX3_expression_59 (tgt := 69) (by decide) (fun c59 => ?_) (fun c59 => ?_)
            · refine l_69 e C q2.1 X (fun ea M5 q5 => ?_) (fun ea M5 q5 => ?_)
              · have e9 : orF T fac 0 r2.2.1 r2.2.2 = (true, r2.2.1, r2.2.2) := by unfold orF; rw [if_neg ea]
                have hR := e9.symm.trans hR
                subst hR
                exact hΦ M5 ⟨q5.1, (K.tr q2.2).tr q5.2⟩
              · have e9 : orF T fac 0 r2.2.1 r2.2.2 = (false, r2.2.1 + 1, r2.2.2) := by unfold orF; rw [if_pos ea]
                have hR := e9.symm.trans hR
                subst hR
                refine r_iload_n (pc := 2) X dX3_expression_2 rfl ?_
                refine r_bipush (pc := 3) (v := (nI 100)) X dX3_expression_3 (by decide) ?_
                refine r_icmp_geN (pc := 5) X dX3_expression_5 (tgt := 86) (by decide) (by omega) (by omega) (fun c5 => ?_) (fun c5 => ?_)
                · refine r_iconst (pc := 86) (v := (nI 0)) X dX3_expression_86 (by decide) ?_
                  refine r_iret (pc := 87) X dX3_expression_87 rfl rfl ?_
                  exact hΦ M5 ⟨q5.1, (K.tr q2.2).tr q5.2⟩
                · exact absurd (show 100 ≤ 0 + 1 by omega) c5
            · exact absurd (show nI 0 ≤ 0 by decide) c59
          · rw [if_neg h0] at hR
            refine r_iload_n (pc := 58) X dX3_expression_58 rfl ?_
            refine r_if_le (pc := 59) X dX3_expression_59 (tgt := 69) (by decide) (fun c59 => ?_) (fun c59 => ?_)
            · exact absurd c59 (nI_nle (by omega) (by omega))
            · refine r_aload_n (pc := 62) X dX3_expression_62 rfl ?_
              refine r_iconst (pc := 63) (v := (nI 4)) X dX3_expression_63 (by decide) ?_
              refine r_iconst (pc := 64) (v := (nI 0)) X dX3_expression_64 (by decide) ?_
              refine r_iconst (pc := 65) (v := (nI 0)) X dX3_expression_65 (by decide) ?_
              refine r_c0_3VW (pc := 66) X rfl dX3_expression_66 tc_3_71 mm_X3_emit (kc_65 C) rfl rfl (e_emit e C q2.1 (s := 4) (l := 0) (v := 0) (by decide) (by decide) (by decide) (by omega)) (Nat.le_of_ble_eq_true rfl) (fun M66 q66 => ?_)
              refine l_69 e C q66.1 X (fun ea M5 q5 => ?_) (fun ea M5 q5 => ?_)
              · have e9 : orF T fac 0 r2.2.1 (r2.2.2 ++ [4 * 65536 + 0 * 256 + 0]) = (true, r2.2.1, (r2.2.2 ++ [4 * 65536 + 0 * 256 + 0])) := by unfold orF; rw [if_neg ea]
                have hR := e9.symm.trans hR
                subst hR
                exact hΦ M5 ⟨q5.1, ((K.tr q2.2).tr q66.2).tr q5.2⟩
              · have e9 : orF T fac 0 r2.2.1 (r2.2.2 ++ [4 * 65536 + 0 * 256 + 0]) = (false, r2.2.1 + 1, (r2.2.2 ++ [4 * 65536 + 0 * 256 + 0])) := by unfold orF; rw [if_pos ea]
                have hR := e9.symm.trans hR
                subst hR
                refine r_iload_n (pc := 2) X dX3_expression_2 rfl ?_
                refine r_bipush (pc := 3) (v := (nI 100)) X dX3_expression_3 (by decide) ?_
                refine r_icmp_geN (pc := 5) X dX3_expression_5 (tgt := 86) (by decide) (by omega) (by omega) (fun c5 => ?_) (fun c5 => ?_)
                · refine r_iconst (pc := 86) (v := (nI 0)) X dX3_expression_86 (by decide) ?_
                  refine r_iret (pc := 87) X dX3_expression_87 rfl rfl ?_
                  exact hΦ M5 ⟨q5.1, ((K.tr q2.2).tr q66.2).tr q5.2⟩
                · exact absurd (show 100 ≤ t + 1 by omega) c5
      · refine r_iconst (pc := 16) (v := (nI 0)) X dX3_expression_16 (by decide) ?_
        refine r_iret (pc := 17) X dX3_expression_17 rfl rfl ?_
        have e4 : (fac p out).1 = false := by rw [q10.1] at c13; exact b2_z.mp c13
        have et : termF T fac p out = fac p out := if_neg (by rw [e4]; decide)
        have hR : fac p out = R := by
          rw [← hR]
          unfold contF
          rw [et, if_neg (by rw [e4]; decide)]
        subst hR
        have := hΦ _ ⟨q10.2.1, K.tr q10.2.2⟩
        rw [e4] at this
        exact this
  | succ k ih =>
    intro t p out M x3 hk S K ht hR
    have g0 := G p out
    have n3 := S.ule
    have gt := grow_term (T := T) G p out
    refine r_iload_n (pc := 2) X dX3_expression_2 rfl ?_
    refine r_bipush (pc := 3) (v := (nI 100)) X dX3_expression_3 (by decide) ?_
    refine r_icmp_geN (pc := 5) X dX3_expression_5 (tgt := 86) (by decide) (by omega) (by omega) (fun c5 => ?_) (fun c5 => ?_)
    · exact absurd c5 (by omega)
    · refine r_aload_n (pc := 8) X dX3_expression_8 rfl ?_
      refine r_iload_n (pc := 9) X dX3_expression_9 rfl ?_
      refine r_c0_1IW (pc := 10) X rfl dX3_expression_10 tc_3_91 mm_X3_factor (kc_65 C) rfl rfl (F p out M S) (Nat.le_of_ble_eq_true rfl) (fun r10 M10 q10 => ?_)
      refine r_if_ne (pc := 13) X dX3_expression_13 (tgt := 18) (by decide) (fun c13 => ?_) (fun c13 => ?_)
      · have e4 : (fac p out).1 = true := by rw [q10.1] at c13; exact b2_n.mp c13
        refine r_iconst (pc := 18) (v := (nI 1)) X dX3_expression_18 (by decide) ?_
        refine r_istore_n (pc := 19) X dX3_expression_19 (Nat.le_of_ble_eq_true rfl) ?_
        have et : termF T fac p out = andF T fac 99 (fac p out).2.1 (fac p out).2.2 := by unfold termF; rw [if_pos e4]
        refine l_and e C F G X (M0 := M) (R := termF T fac p out) (fun z M2 q2 => ?_) (fun z M2 zz q2 => ?_) 99 1 _ _ _ (by omega) q10.2.1 q10.2.2 et.symm
        · have hR : termF T fac p out = R := (if_neg (by rw [z]; decide)).symm.trans hR
          subst hR
          have := hΦ M2 ⟨q2.1, K.tr q2.2⟩
          rw [z] at this
          exact this
        · have hR : orF T fac (k + 1) (termF T fac p out).2.1 (if t = 0 then (termF T fac p out).2.2 else (termF T fac p out).2.2 ++ [4 * 65536 + 0 * 256 + 0]) = R := (if_pos z).symm.trans hR
          have g2 := q2.1.ule
          generalize termF T fac p out = r2 at *
          by_cases h0 : t = 0
          · subst h0
            rw [if_pos rfl] at hR
            refine r_iload_n (pc := 58) X dX3_expression_58 rfl ?_
            refine r_if_le (pc := 59) X dX3_expression_59 (tgt := 69) (by decide) (fun c59 => ?_) (fun c59 => ?_)
            · refine l_69 e C q2.1 X (fun ea M5 q5 => ?_) (fun ea M5 q5 => ?_)
              · have e9 : orF T fac (k + 1) r2.2.1 r2.2.2 = (true, r2.2.1, r2.2.2) := by unfold orF; rw [if_neg ea]
                have hR := e9.symm.trans hR
                subst hR
                exact hΦ M5 ⟨q5.1, (K.tr q2.2).tr q5.2⟩
              · have e9 : orF T fac (k + 1) r2.2.1 r2.2.2 = contF T fac (0 + 1) k (r2.2.1 + 1) r2.2.2 := by unfold orF contF; rw [if_pos ea, if_neg (Nat.succ_ne_zero 0)]
                exact ih (0 + 1) _ _ M5 _ (by omega) q5.1 ((K.tr q2.2).tr q5.2) (Or.inr (Nat.succ_le_succ (q2.1).ule)) (e9.symm.trans hR)
            · exact absurd (show nI 0 ≤ 0 by decide) c59
          · rw [if_neg h0] at hR
            refine r_iload_n (pc := 58) X dX3_expression_58 rfl ?_
            refine r_if_le (pc := 59) X dX3_expression_59 (tgt := 69) (by decide) (fun c59 => ?_) (fun c59 => ?_)
            · exact absurd c59 (nI_nle (by omega) (by omega))
            · refine r_aload_n (pc := 62) X dX3_expression_62 rfl ?_
              refine r_iconst (pc := 63) (v := (nI 4)) X dX3_expression_63 (by decide) ?_
              refine r_iconst (pc := 64) (v := (nI 0)) X dX3_expression_64 (by decide) ?_
              refine r_iconst (pc := 65) (v := (nI 0)) X dX3_expression_65 (by decide) ?_
              refine r_c0_3VW (pc := 66) X rfl dX3_expression_66 tc_3_71 mm_X3_emit (kc_65 C) rfl rfl (e_emit e C q2.1 (s := 4) (l := 0) (v := 0) (by decide) (by decide) (by decide) (by omega)) (Nat.le_of_ble_eq_true rfl) (fun M66 q66 => ?_)
              refine l_69 e C q66.1 X (fun ea M5 q5 => ?_) (fun ea M5 q5 => ?_)
              · have e9 : orF T fac (k + 1) r2.2.1 (r2.2.2 ++ [4 * 65536 + 0 * 256 + 0]) = (true, r2.2.1, (r2.2.2 ++ [4 * 65536 + 0 * 256 + 0])) := by unfold orF; rw [if_neg ea]
                have hR := e9.symm.trans hR
                subst hR
                exact hΦ M5 ⟨q5.1, ((K.tr q2.2).tr q66.2).tr q5.2⟩
              · have e9 : orF T fac (k + 1) r2.2.1 (r2.2.2 ++ [4 * 65536 + 0 * 256 + 0]) = contF T fac (t + 1) k (r2.2.1 + 1) (r2.2.2 ++ [4 * 65536 + 0 * 256 + 0]) := by unfold orF contF; rw [if_pos ea, if_neg (Nat.succ_ne_zero t)]
                exact ih (t + 1) _ _ M5 _ (by omega) q5.1 (((K.tr q2.2).tr q66.2).tr q5.2) (Or.inr (Nat.succ_le_succ (q66.1).ule)) (e9.symm.trans hR)
      · refine r_iconst (pc := 16) (v := (nI 0)) X dX3_expression_16 (by decide) ?_
        refine r_iret (pc := 17) X dX3_expression_17 rfl rfl ?_
        have e4 : (fac p out).1 = false := by rw [q10.1] at c13; exact b2_z.mp c13
        have et : termF T fac p out = fac p out := if_neg (by rw [e4]; decide)
        have hR : fac p out = R := by
          rw [← hR]
          unfold contF
          rw [et, if_neg (by rw [e4]; decide)]
        subst hR
        have := hΦ _ ⟨q10.2.1, K.tr q10.2.2⟩
        rw [e4] at this
        exact this
set_option maxRecDepth 10000 in
set_option maxHeartbeats 4000000 in
theorem e_expr : ∀ (e : Nat) {h : hp_T} {T : TX} {x : Int32} {fac : Nat → List Nat → PR} {p : Nat} {out : List Nat} {M : Mem} (C : CS h) (F : FcC h T (e + 1) x fac) (G : Grow fac) (S : RdS T p out M), Ei (e + 2) nX3_expression [.ref 65, .int x] (wi h M) (fun r M1 => r = b2 (exprF T fac p out).1 ∧ RdP T (exprF T fac p out) M M1) := by
  intro e h T x fac p out M C F G S
  refine Ex.of mm_X3_expression (Nat.le_of_ble_eq_true rfl) fun w κ X hk hnm => ?_
  refine r_iconst (pc := 0) (v := (nI 0)) X dX3_expression_0 (by decide) ?_
  refine r_istore_n (pc := 1) X dX3_expression_1 (Nat.le_of_ble_eq_true rfl) ?_
  have e9 : contF T fac 0 99 p out = exprF T fac p out := rfl
  exact l_or e C F G X (M0 := M) (fun M1 q => ⟨⟨_, M1, rfl, rfl, rfl, q⟩, rfl⟩) 99 0 p out M _ rfl S RdK.rf (Or.inl rfl) e9
theorem e_factor {h : hp_T} {T : TX} (C : CS h) : ∀ D, D ≤ 4 → ∀ e, 2 * D + 8 ≤ e → FcC h T e (nI (4 - D)) (factorF T D) := by
  intro D
  induction D with
  | zero =>
    intro hD e0 he p out M S
    obtain ⟨e, rfl⟩ : ∃ e, e0 = e + 6 := ⟨e0 - 6, by omega⟩
    refine Ex.of mm_X3_factor (Nat.le_of_ble_eq_true rfl) fun w κ X hk hnm => ?_
    refine r_aload_n (pc := 0) X dX3_factor_0 rfl ?_
    refine r_c0_0P (pc := 1) X rfl dX3_factor_1 tc_3_56 mm_X3_ahead (kc_65 C) rfl rfl (e_ahead (e + 5) C S) (Nat.le_of_ble_eq_true rfl) ?_
    refine r_istore_n (pc := 4) X dX3_factor_4 (Nat.le_of_ble_eq_true rfl) ?_
    refine r_iload_n (pc := 5) X dX3_factor_5 rfl ?_
    refine r_bipush (pc := 6) (v := (nI 33)) X dX3_factor_6 (by decide) ?_
    refine r_icmp_eq (pc := 8) X dX3_factor_8 (tgt := 22) (by decide) (fun c8 => ?_) (fun c8 => ?_)
    · refine r_iload_n (pc := 22) X dX3_factor_22 rfl ?_
      refine r_iconst (pc := 23) (v := (nI 4)) X dX3_factor_23 (by decide) ?_
      refine r_icmp_lt (pc := 24) X dX3_factor_24 (tgt := 29) (by decide) (fun c24 => ?_) (fun c24 => ?_)
      · exact absurd c24 (by decide)
      · refine r_iconst (pc := 27) (v := (nI 0)) X dX3_factor_27 (by decide) ?_
        refine r_iret (pc := 28) X dX3_factor_28 rfl rfl ?_
        have e1 : aheadN T p = 33 ∨ aheadN T p = 40 := by
          first
          | exact Or.inl ((ahead_of S (by omega)).mp c8)
          | exact Or.inr ((ahead_of S (by omega)).mp c14)
        have e2 : factorF T 0 p out = (false, p, out) := if_pos e1
        rw [e2]
        exact ⟨⟨_, M, rfl, rfl, rfl, S, RdK.rf⟩, rfl⟩
    · refine r_iload_n (pc := 11) X dX3_factor_11 rfl ?_
      refine r_bipush (pc := 12) (v := (nI 40)) X dX3_factor_12 (by decide) ?_
      refine r_icmp_eq (pc := 14) X dX3_factor_14 (tgt := 22) (by decide) (fun c14 => ?_) (fun c14 => ?_)
      · refine r_iload_n (pc := 22) X dX3_factor_22 rfl ?_
        refine r_iconst (pc := 23) (v := (nI 4)) X dX3_factor_23 (by decide) ?_
        refine r_icmp_lt (pc := 24) X dX3_factor_24 (tgt := 29) (by decide) (fun c24 => ?_) (fun c24 => ?_)
        · exact absurd c24 (by decide)
        · refine r_iconst (pc := 27) (v := (nI 0)) X dX3_factor_27 (by decide) ?_
          refine r_iret (pc := 28) X dX3_factor_28 rfl rfl ?_
          have e1 : aheadN T p = 33 ∨ aheadN T p = 40 := by
            first
            | exact Or.inl ((ahead_of S (by omega)).mp c8)
            | exact Or.inr ((ahead_of S (by omega)).mp c14)
          have e2 : factorF T 0 p out = (false, p, out) := if_pos e1
          rw [e2]
          exact ⟨⟨_, M, rfl, rfl, rfl, S, RdK.rf⟩, rfl⟩
      · refine r_aload_n (pc := 17) X dX3_factor_17 rfl ?_
        refine r_c0_0IW (pc := 18) X rfl dX3_factor_18 tc_3_94 mm_X3_test (kc_65 C) rfl rfl (e_test e C S) (Nat.le_of_ble_eq_true rfl) (fun r18 M18 q18 => ?_)
        refine r_iret (pc := 21) X dX3_factor_21 rfl (by rw [q18.1]; exact b2_nar _) ?_
        have e1 : ¬ (aheadN T p = 33 ∨ aheadN T p = 40) := fun z => z.elim (fun z => c8 ((ahead_of S (by omega)).mpr z)) (fun z => c14 ((ahead_of S (by omega)).mpr z))
        have e2 : factorF T 0 p out = testF T p out := if_neg e1
        rw [e2]
        exact ⟨⟨_, _, rfl, rfl, q18.1, q18.2⟩, rfl⟩
  | succ D ih =>
    intro hD e0 he p out M S
    obtain ⟨e, rfl⟩ : ∃ e, e0 = e + 6 := ⟨e0 - 6, by omega⟩
    have n3 := S.ule
    have F : FcC h T (e + 4) (nI (4 - D)) (factorF T D) := ih (by omega) (e + 4) (by omega)
    have F5 : FcC h T (e + 5) (nI (4 - D)) (factorF T D) := ih (by omega) (e + 5) (by omega)
    have G := grow_fac (T := T) D
    have gf := G (p + 1) out
    have ge := grow_expr (T := T) G (p + 1) out
    have ei : nI (4 - (D + 1)) + nI 1 = nI (4 - D) := by rw [nI_add]; congr 1; omega
    refine Ex.of mm_X3_factor (Nat.le_of_ble_eq_true rfl) fun w κ X hk hnm => ?_
    refine r_aload_n (pc := 0) X dX3_factor_0 rfl ?_
    refine r_c0_0P (pc := 1) X rfl dX3_factor_1 tc_3_56 mm_X3_ahead (kc_65 C) rfl rfl (e_ahead (e + 5) C S) (Nat.le_of_ble_eq_true rfl) ?_
    refine r_istore_n (pc := 4) X dX3_factor_4 (Nat.le_of_ble_eq_true rfl) ?_
    refine r_iload_n (pc := 5) X dX3_factor_5 rfl ?_
    refine r_bipush (pc := 6) (v := (nI 33)) X dX3_factor_6 (by decide) ?_
    refine r_icmp_eq (pc := 8) X dX3_factor_8 (tgt := 22) (by decide) (fun c8 => ?_) (fun c8 => ?_)
    · refine r_iload_n (pc := 22) X dX3_factor_22 rfl ?_
      refine r_iconst (pc := 23) (v := (nI 4)) X dX3_factor_23 (by decide) ?_
      refine r_icmp_ltN (pc := 24) X dX3_factor_24 (tgt := 29) (by decide) (by omega) (by omega) (fun c24 => ?_) (fun c24 => ?_)
      · have hp : p < T.1 := by
          first
          | exact aheadN_lt ((ahead_of S (k := 33) (by omega)).mp c8) (by omega)
          | exact aheadN_lt ((ahead_of S (k := 40) (by omega)).mp c14) (by omega)
        have S1 := S.adv hp
        have K1 : RdK M _ := RdK.u (x := nI p + nI 1) (Or.inl rfl)
        refine r_aload_n (pc := 29) X dX3_factor_29 rfl ?_
        refine r_dup (pc := 30) X dX3_factor_30 rfl ?_
        refine r_getiW (pc := 31) X dX3_factor_31 tf_3_23 rfl (kc_65 C) S.pl ?_
        refine r_iconst (pc := 34) (v := (nI 1)) X dX3_factor_34 (by decide) ?_
        refine r_iadd (pc := 35) X dX3_factor_35 ?_
        refine r_putiW (pc := 36) X dX3_factor_36 tf_3_23 rfl (Or.inl rfl) (kc_65 C) ⟨rfl, rfl⟩ ?_
        refine r_iload_n (pc := 39) X dX3_factor_39 rfl ?_
        refine r_bipush (pc := 40) (v := (nI 40)) X dX3_factor_40 (by decide) ?_
        refine r_icmp_ne (pc := 42) X dX3_factor_42 (tgt := 70) (by decide) (fun c42 => ?_) (fun c42 => ?_)
        · refine r_aload_n (pc := 70) X dX3_factor_70 rfl ?_
          refine r_iload_n (pc := 71) X dX3_factor_71 rfl ?_
          refine r_iconst (pc := 72) (v := (nI 1)) X dX3_factor_72 (by decide) ?_
          refine r_iadd (pc := 73) X dX3_factor_73 ?_
          rw [ei]
          refine r_c0_1IW (pc := 74) X rfl dX3_factor_74 tc_3_91 mm_X3_factor (kc_65 C) rfl rfl (F5 (p + 1) out _ S1) (Nat.le_of_ble_eq_true rfl) (fun r74 M74 q74 => ?_)
          refine r_if_ne (pc := 77) X dX3_factor_77 (tgt := 82) (by decide) (fun c77 => ?_) (fun c77 => ?_)
          · refine r_aload_n (pc := 82) X dX3_factor_82 rfl ?_
            refine r_iconst (pc := 83) (v := (nI 5)) X dX3_factor_83 (by decide) ?_
            refine r_iconst (pc := 84) (v := (nI 0)) X dX3_factor_84 (by decide) ?_
            refine r_iconst (pc := 85) (v := (nI 0)) X dX3_factor_85 (by decide) ?_
            refine r_c0_3VW (pc := 86) X rfl dX3_factor_86 tc_3_71 mm_X3_emit (kc_65 C) rfl rfl (e_emit (e + 4) C q74.2.1 (s := 5) (l := 0) (v := 0) (by decide) (by decide) (by decide) (by omega)) (Nat.le_of_ble_eq_true rfl) (fun M86 q86 => ?_)
            refine r_iconst (pc := 89) (v := (nI 1)) X dX3_factor_89 (by decide) ?_
            refine r_iret (pc := 90) X dX3_factor_90 rfl rfl ?_
            have e3 : aheadN T p = 33 := by
              first
              | exact (ahead_of S (by omega)).mp c8
              | exact absurd c14 c42
            have e2 : factorF T (D + 1) p out = (if (factorF T D (p + 1) out).1 = true then (true, (factorF T D (p + 1) out).2.1, (factorF T D (p + 1) out).2.2 ++ [5 * 65536 + 0 * 256 + 0]) else factorF T D (p + 1) out) := if_pos e3
            rw [q74.1] at c77
            have e4 : (factorF T D (p + 1) out).1 = true := b2_n.mp c77
            have e5 := e2.trans (if_pos e4)
            rw [e5]
            exact ⟨⟨_, _, rfl, rfl, rfl, q86.1, (K1.tr q74.2.2).tr q86.2⟩, rfl⟩
          · refine r_iconst (pc := 80) (v := (nI 0)) X dX3_factor_80 (by decide) ?_
            refine r_iret (pc := 81) X dX3_factor_81 rfl rfl ?_
            have e3 : aheadN T p = 33 := by
              first
              | exact (ahead_of S (by omega)).mp c8
              | exact absurd c14 c42
            have e2 : factorF T (D + 1) p out = (if (factorF T D (p + 1) out).1 = true then (true, (factorF T D (p + 1) out).2.1, (factorF T D (p + 1) out).2.2 ++ [5 * 65536 + 0 * 256 + 0]) else factorF T D (p + 1) out) := if_pos e3
            rw [q74.1] at c77
            have e4 : (factorF T D (p + 1) out).1 = false := b2_z.mp c77
            have e5 := e2.trans (if_neg (by rw [e4]; decide))
            rw [e5]
            exact ⟨⟨_, _, rfl, rfl, by rw [e4]; rfl, q74.2.1, K1.tr q74.2.2⟩, rfl⟩
        · refine r_aload_n (pc := 45) X dX3_factor_45 rfl ?_
          refine r_iload_n (pc := 46) X dX3_factor_46 rfl ?_
          refine r_iconst (pc := 47) (v := (nI 1)) X dX3_factor_47 (by decide) ?_
          refine r_iadd (pc := 48) X dX3_factor_48 ?_
          rw [ei]
          refine r_c0_1IW (pc := 49) X rfl dX3_factor_49 tc_3_68 mm_X3_expression (kc_65 C) rfl rfl (e_expr (e + 3) C F G S1) (Nat.le_of_ble_eq_true rfl) (fun r49 M49 q49 => ?_)
          refine r_if_eq (pc := 52) X dX3_factor_52 (tgt := 68) (by decide) (fun c52 => ?_) (fun c52 => ?_)
          · refine r_iconst (pc := 68) (v := (nI 0)) X dX3_factor_68 (by decide) ?_
            refine r_iret (pc := 69) X dX3_factor_69 rfl rfl ?_
            have e3 : aheadN T p = 40 := (ahead_of S (by omega)).mp c42
            have e2 : factorF T (D + 1) p out = (if (exprF T (factorF T D) (p + 1) out).1 = true then takeF T 41 (exprF T (factorF T D) (p + 1) out).2.1 (exprF T (factorF T D) (p + 1) out).2.2 else exprF T (factorF T D) (p + 1) out) := (if_neg (by omega)).trans (if_pos e3)
            rw [q49.1] at c52
            first
            | (have e4 : (exprF T (factorF T D) (p + 1) out).1 = false := b2_z.mp c52
               have e5 := e2.trans (if_neg (by rw [e4]; decide))
               rw [e5]
               exact ⟨⟨_, _, rfl, rfl, by rw [e4]; rfl, q49.2.1, K1.tr q49.2.2⟩, rfl⟩)
            | (have e4 : (exprF T (factorF T D) (p + 1) out).1 = true := b2_n.mp c52
               have e5 := e2.trans (if_pos e4)
               rw [e5]
               rw [q58.1] at c61
               first
               | exact ⟨⟨_, _, rfl, rfl, by rw [b2_z.mp c61]; rfl, q58.2.1, (K1.tr q49.2.2).tr q58.2.2⟩, rfl⟩
               | exact ⟨⟨_, _, rfl, rfl, by rw [b2_n.mp c61]; rfl, q58.2.1, (K1.tr q49.2.2).tr q58.2.2⟩, rfl⟩)
          · refine r_aload_n (pc := 55) X dX3_factor_55 rfl ?_
            refine r_bipush (pc := 56) (v := (nI 41)) X dX3_factor_56 (by decide) ?_
            refine r_c0_1IW (pc := 58) X rfl dX3_factor_58 tc_3_41 mm_X3_take (kc_65 C) rfl rfl (e_take (e + 5) C q49.2.1 (k := 41) (by decide)) (Nat.le_of_ble_eq_true rfl) (fun r58 M58 q58 => ?_)
            refine r_if_eq (pc := 61) X dX3_factor_61 (tgt := 68) (by decide) (fun c61 => ?_) (fun c61 => ?_)
            · refine r_iconst (pc := 68) (v := (nI 0)) X dX3_factor_68 (by decide) ?_
              refine r_iret (pc := 69) X dX3_factor_69 rfl rfl ?_
              have e3 : aheadN T p = 40 := (ahead_of S (by omega)).mp c42
              have e2 : factorF T (D + 1) p out = (if (exprF T (factorF T D) (p + 1) out).1 = true then takeF T 41 (exprF T (factorF T D) (p + 1) out).2.1 (exprF T (factorF T D) (p + 1) out).2.2 else exprF T (factorF T D) (p + 1) out) := (if_neg (by omega)).trans (if_pos e3)
              rw [q49.1] at c52
              first
              | (have e4 : (exprF T (factorF T D) (p + 1) out).1 = false := b2_z.mp c52
                 have e5 := e2.trans (if_neg (by rw [e4]; decide))
                 rw [e5]
                 exact ⟨⟨_, _, rfl, rfl, by rw [e4]; rfl, q49.2.1, K1.tr q49.2.2⟩, rfl⟩)
              | (have e4 : (exprF T (factorF T D) (p + 1) out).1 = true := b2_n.mp c52
                 have e5 := e2.trans (if_pos e4)
                 rw [e5]
                 rw [q58.1] at c61
                 first
                 | exact ⟨⟨_, _, rfl, rfl, by rw [b2_z.mp c61]; rfl, q58.2.1, (K1.tr q49.2.2).tr q58.2.2⟩, rfl⟩
                 | exact ⟨⟨_, _, rfl, rfl, by rw [b2_n.mp c61]; rfl, q58.2.1, (K1.tr q49.2.2).tr q58.2.2⟩, rfl⟩)
            · refine r_iconst (pc := 64) (v := (nI 1)) X dX3_factor_64 (by decide) ?_
              refine r_goto (pc := 65) X dX3_factor_65 (tgt := 69) (by decide) ?_
              refine r_iret (pc := 69) X dX3_factor_69 rfl rfl ?_
              have e3 : aheadN T p = 40 := (ahead_of S (by omega)).mp c42
              have e2 : factorF T (D + 1) p out = (if (exprF T (factorF T D) (p + 1) out).1 = true then takeF T 41 (exprF T (factorF T D) (p + 1) out).2.1 (exprF T (factorF T D) (p + 1) out).2.2 else exprF T (factorF T D) (p + 1) out) := (if_neg (by omega)).trans (if_pos e3)
              rw [q49.1] at c52
              first
              | (have e4 : (exprF T (factorF T D) (p + 1) out).1 = false := b2_z.mp c52
                 have e5 := e2.trans (if_neg (by rw [e4]; decide))
                 rw [e5]
                 exact ⟨⟨_, _, rfl, rfl, by rw [e4]; rfl, q49.2.1, K1.tr q49.2.2⟩, rfl⟩)
              | (have e4 : (exprF T (factorF T D) (p + 1) out).1 = true := b2_n.mp c52
                 have e5 := e2.trans (if_pos e4)
                 rw [e5]
                 rw [q58.1] at c61
                 first
                 | exact ⟨⟨_, _, rfl, rfl, by rw [b2_z.mp c61]; rfl, q58.2.1, (K1.tr q49.2.2).tr q58.2.2⟩, rfl⟩
                 | exact ⟨⟨_, _, rfl, rfl, by rw [b2_n.mp c61]; rfl, q58.2.1, (K1.tr q49.2.2).tr q58.2.2⟩, rfl⟩)
      · exact absurd (show 4 - (D + 1) < 4 by omega) c24
    · refine r_iload_n (pc := 11) X dX3_factor_11 rfl ?_
      refine r_bipush (pc := 12) (v := (nI 40)) X dX3_factor_12 (by decide) ?_
      refine r_icmp_eq (pc := 14) X dX3_factor_14 (tgt := 22) (by decide) (fun c14 => ?_) (fun c14 => ?_)
      · refine r_iload_n (pc := 22) X dX3_factor_22 rfl ?_
        refine r_iconst (pc := 23) (v := (nI 4)) X dX3_factor_23 (by decide) ?_
        refine r_icmp_ltN (pc := 24) X dX3_factor_24 (tgt := 29) (by decide) (by omega) (by omega) (fun c24 => ?_) (fun c24 => ?_)
        · have hp : p < T.1 := by
            first
            | exact aheadN_lt ((ahead_of S (k := 33) (by omega)).mp c8) (by omega)
            | exact aheadN_lt ((ahead_of S (k := 40) (by omega)).mp c14) (by omega)
          have S1 := S.adv hp
          have K1 : RdK M _ := RdK.u (x := nI p + nI 1) (Or.inl rfl)
          refine r_aload_n (pc := 29) X dX3_factor_29 rfl ?_
          refine r_dup (pc := 30) X dX3_factor_30 rfl ?_
          refine r_getiW (pc := 31) X dX3_factor_31 tf_3_23 rfl (kc_65 C) S.pl ?_
          refine r_iconst (pc := 34) (v := (nI 1)) X dX3_factor_34 (by decide) ?_
          refine r_iadd (pc := 35) X dX3_factor_35 ?_
          refine r_putiW (pc := 36) X dX3_factor_36 tf_3_23 rfl (Or.inl rfl) (kc_65 C) ⟨rfl, rfl⟩ ?_
          refine r_iload_n (pc := 39) X dX3_factor_39 rfl ?_
          refine r_bipush (pc := 40) (v := (nI 40)) X dX3_factor_40 (by decide) ?_
          refine r_icmp_ne (pc := 42) X dX3_factor_42 (tgt := 70) (by decide) (fun c42 => ?_) (fun c42 => ?_)
          · refine r_aload_n (pc := 70) X dX3_factor_70 rfl ?_
            refine r_iload_n (pc := 71) X dX3_factor_71 rfl ?_
            refine r_iconst (pc := 72) (v := (nI 1)) X dX3_factor_72 (by decide) ?_
            refine r_iadd (pc := 73) X dX3_factor_73 ?_
            rw [ei]
            refine r_c0_1IW (pc := 74) X rfl dX3_factor_74 tc_3_91 mm_X3_factor (kc_65 C) rfl rfl (F5 (p + 1) out _ S1) (Nat.le_of_ble_eq_true rfl) (fun r74 M74 q74 => ?_)
            refine r_if_ne (pc := 77) X dX3_factor_77 (tgt := 82) (by decide) (fun c77 => ?_) (fun c77 => ?_)
            · refine r_aload_n (pc := 82) X dX3_factor_82 rfl ?_
              refine r_iconst (pc := 83) (v := (nI 5)) X dX3_factor_83 (by decide) ?_
              refine r_iconst (pc := 84) (v := (nI 0)) X dX3_factor_84 (by decide) ?_
              refine r_iconst (pc := 85) (v := (nI 0)) X dX3_factor_85 (by decide) ?_
              refine r_c0_3VW (pc := 86) X rfl dX3_factor_86 tc_3_71 mm_X3_emit (kc_65 C) rfl rfl (e_emit (e + 4) C q74.2.1 (s := 5) (l := 0) (v := 0) (by decide) (by decide) (by decide) (by omega)) (Nat.le_of_ble_eq_true rfl) (fun M86 q86 => ?_)
              refine r_iconst (pc := 89) (v := (nI 1)) X dX3_factor_89 (by decide) ?_
              refine r_iret (pc := 90) X dX3_factor_90 rfl rfl ?_
              have e3 : aheadN T p = 33 := by
                first
                | exact (ahead_of S (by omega)).mp c8
                | exact absurd c14 c42
              have e2 : factorF T (D + 1) p out = (if (factorF T D (p + 1) out).1 = true then (true, (factorF T D (p + 1) out).2.1, (factorF T D (p + 1) out).2.2 ++ [5 * 65536 + 0 * 256 + 0]) else factorF T D (p + 1) out) := if_pos e3
              rw [q74.1] at c77
              have e4 : (factorF T D (p + 1) out).1 = true := b2_n.mp c77
              have e5 := e2.trans (if_pos e4)
              rw [e5]
              exact ⟨⟨_, _, rfl, rfl, rfl, q86.1, (K1.tr q74.2.2).tr q86.2⟩, rfl⟩
            · refine r_iconst (pc := 80) (v := (nI 0)) X dX3_factor_80 (by decide) ?_
              refine r_iret (pc := 81) X dX3_factor_81 rfl rfl ?_
              have e3 : aheadN T p = 33 := by
                first
                | exact (ahead_of S (by omega)).mp c8
                | exact absurd c14 c42
              have e2 : factorF T (D + 1) p out = (if (factorF T D (p + 1) out).1 = true then (true, (factorF T D (p + 1) out).2.1, (factorF T D (p + 1) out).2.2 ++ [5 * 65536 + 0 * 256 + 0]) else factorF T D (p + 1) out) := if_pos e3
              rw [q74.1] at c77
              have e4 : (factorF T D (p + 1) out).1 = false := b2_z.mp c77
              have e5 := e2.trans (if_neg (by rw [e4]; decide))
              rw [e5]
              exact ⟨⟨_, _, rfl, rfl, by rw [e4]; rfl, q74.2.1, K1.tr q74.2.2⟩, rfl⟩
          · refine r_aload_n (pc := 45) X dX3_factor_45 rfl ?_
            refine r_iload_n (pc := 46) X dX3_factor_46 rfl ?_
            refine r_iconst (pc := 47) (v := (nI 1)) X dX3_factor_47 (by decide) ?_
            refine r_iadd (pc := 48) X dX3_factor_48 ?_
            rw [ei]
            refine r_c0_1IW (pc := 49) X rfl dX3_factor_49 tc_3_68 mm_X3_expression (kc_65 C) rfl rfl (e_expr (e + 3) C F G S1) (Nat.le_of_ble_eq_true rfl) (fun r49 M49 q49 => ?_)
            refine r_if_eq (pc := 52) X dX3_factor_52 (tgt := 68) (by decide) (fun c52 => ?_) (fun c52 => ?_)
            · refine r_iconst (pc := 68) (v := (nI 0)) X dX3_factor_68 (by decide) ?_
              refine r_iret (pc := 69) X dX3_factor_69 rfl rfl ?_
              have e3 : aheadN T p = 40 := (ahead_of S (by omega)).mp c42
              have e2 : factorF T (D + 1) p out = (if (exprF T (factorF T D) (p + 1) out).1 = true then takeF T 41 (exprF T (factorF T D) (p + 1) out).2.1 (exprF T (factorF T D) (p + 1) out).2.2 else exprF T (factorF T D) (p + 1) out) := (if_neg (by omega)).trans (if_pos e3)
              rw [q49.1] at c52
              first
              | (have e4 : (exprF T (factorF T D) (p + 1) out).1 = false := b2_z.mp c52
                 have e5 := e2.trans (if_neg (by rw [e4]; decide))
                 rw [e5]
                 exact ⟨⟨_, _, rfl, rfl, by rw [e4]; rfl, q49.2.1, K1.tr q49.2.2⟩, rfl⟩)
              | (have e4 : (exprF T (factorF T D) (p + 1) out).1 = true := b2_n.mp c52
                 have e5 := e2.trans (if_pos e4)
                 rw [e5]
                 rw [q58.1] at c61
                 first
                 | exact ⟨⟨_, _, rfl, rfl, by rw [b2_z.mp c61]; rfl, q58.2.1, (K1.tr q49.2.2).tr q58.2.2⟩, rfl⟩
                 | exact ⟨⟨_, _, rfl, rfl, by rw [b2_n.mp c61]; rfl, q58.2.1, (K1.tr q49.2.2).tr q58.2.2⟩, rfl⟩)
            · refine r_aload_n (pc := 55) X dX3_factor_55 rfl ?_
              refine r_bipush (pc := 56) (v := (nI 41)) X dX3_factor_56 (by decide) ?_
              refine r_c0_1IW (pc := 58) X rfl dX3_factor_58 tc_3_41 mm_X3_take (kc_65 C) rfl rfl (e_take (e + 5) C q49.2.1 (k := 41) (by decide)) (Nat.le_of_ble_eq_true rfl) (fun r58 M58 q58 => ?_)
              refine r_if_eq (pc := 61) X dX3_factor_61 (tgt := 68) (by decide) (fun c61 => ?_) (fun c61 => ?_)
              · refine r_iconst (pc := 68) (v := (nI 0)) X dX3_factor_68 (by decide) ?_
                refine r_iret (pc := 69) X dX3_factor_69 rfl rfl ?_
                have e3 : aheadN T p = 40 := (ahead_of S (by omega)).mp c42
                have e2 : factorF T (D + 1) p out = (if (exprF T (factorF T D) (p + 1) out).1 = true then takeF T 41 (exprF T (factorF T D) (p + 1) out).2.1 (exprF T (factorF T D) (p + 1) out).2.2 else exprF T (factorF T D) (p + 1) out) := (if_neg (by omega)).trans (if_pos e3)
                rw [q49.1] at c52
                first
                | (have e4 : (exprF T (factorF T D) (p + 1) out).1 = false := b2_z.mp c52
                   have e5 := e2.trans (if_neg (by rw [e4]; decide))
                   rw [e5]
                   exact ⟨⟨_, _, rfl, rfl, by rw [e4]; rfl, q49.2.1, K1.tr q49.2.2⟩, rfl⟩)
                | (have e4 : (exprF T (factorF T D) (p + 1) out).1 = true := b2_n.mp c52
                   have e5 := e2.trans (if_pos e4)
                   rw [e5]
                   rw [q58.1] at c61
                   first
                   | exact ⟨⟨_, _, rfl, rfl, by rw [b2_z.mp c61]; rfl, q58.2.1, (K1.tr q49.2.2).tr q58.2.2⟩, rfl⟩
                   | exact ⟨⟨_, _, rfl, rfl, by rw [b2_n.mp c61]; rfl, q58.2.1, (K1.tr q49.2.2).tr q58.2.2⟩, rfl⟩)
              · refine r_iconst (pc := 64) (v := (nI 1)) X dX3_factor_64 (by decide) ?_
                refine r_goto (pc := 65) X dX3_factor_65 (tgt := 69) (by decide) ?_
                refine r_iret (pc := 69) X dX3_factor_69 rfl rfl ?_
                have e3 : aheadN T p = 40 := (ahead_of S (by omega)).mp c42
                have e2 : factorF T (D + 1) p out = (if (exprF T (factorF T D) (p + 1) out).1 = true then takeF T 41 (exprF T (factorF T D) (p + 1) out).2.1 (exprF T (factorF T D) (p + 1) out).2.2 else exprF T (factorF T D) (p + 1) out) := (if_neg (by omega)).trans (if_pos e3)
                rw [q49.1] at c52
                first
                | (have e4 : (exprF T (factorF T D) (p + 1) out).1 = false := b2_z.mp c52
                   have e5 := e2.trans (if_neg (by rw [e4]; decide))
                   rw [e5]
                   exact ⟨⟨_, _, rfl, rfl, by rw [e4]; rfl, q49.2.1, K1.tr q49.2.2⟩, rfl⟩)
                | (have e4 : (exprF T (factorF T D) (p + 1) out).1 = true := b2_n.mp c52
                   have e5 := e2.trans (if_pos e4)
                   rw [e5]
                   rw [q58.1] at c61
                   first
                   | exact ⟨⟨_, _, rfl, rfl, by rw [b2_z.mp c61]; rfl, q58.2.1, (K1.tr q49.2.2).tr q58.2.2⟩, rfl⟩
                   | exact ⟨⟨_, _, rfl, rfl, by rw [b2_n.mp c61]; rfl, q58.2.1, (K1.tr q49.2.2).tr q58.2.2⟩, rfl⟩)
        · exact absurd (show 4 - (D + 1) < 4 by omega) c24
      · refine r_aload_n (pc := 17) X dX3_factor_17 rfl ?_
        refine r_c0_0IW (pc := 18) X rfl dX3_factor_18 tc_3_94 mm_X3_test (kc_65 C) rfl rfl (e_test e C S) (Nat.le_of_ble_eq_true rfl) (fun r18 M18 q18 => ?_)
        refine r_iret (pc := 21) X dX3_factor_21 rfl (by rw [q18.1]; exact b2_nar _) ?_
        have e1 : ¬ (aheadN T p = 33 ∨ aheadN T p = 40) := fun z => z.elim (fun z => c8 ((ahead_of S (by omega)).mpr z)) (fun z => c14 ((ahead_of S (by omega)).mpr z))
        have e2 : factorF T (D + 1) p out = testF T p out := (if_neg (fun z => e1 (Or.inl z))).trans (if_neg (fun z => e1 (Or.inr z)))
        rw [e2]
        exact ⟨⟨_, _, rfl, rfl, q18.1, q18.2⟩, rfl⟩
