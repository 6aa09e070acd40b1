/-! clauses, and what compiles an evening -/
abbrev FC : Type := Nat × Nat
abbrev CR : Type := Bool × Nat × List Nat × FC
def clause4 (s v : Nat) (x : PR) (fc : FC) : CR := if x.1 = true then (true, x.2.1, x.2.2 ++ [s * 65536 + 0 * 256 + v], fc) else (false, x.2.1, x.2.2, fc)
def clause3 (T : TX) (s v : Nat) (t : PR) (fc : FC) : CR := if t.1 = true then clause4 s v (exprF T (factorF T 4) t.2.1 t.2.2) fc else (false, t.2.1, t.2.2, fc)
def clause2 (T : TX) (i : Nat) (q : Bool × Nat × Nat) (out : List Nat) (fc : FC) : CR := if q.1 = true then (if i = 3 then (true, q.2.1, out, (q.2.2, fc.2)) else if i = 4 then (true, q.2.1, out, (fc.1, q.2.2)) else clause3 T (if i = 1 then 6 else 7) q.2.2 (takeF T 32 q.2.1 out) fc) else (false, q.2.1, out, fc)
def clause1 (T : TX) (i : Nat) (r : PR) (fc : FC) : CR := if r.1 = true then clause2 T i (numF T r.2.1) r.2.2 fc else (false, r.2.1, r.2.2, fc)
def clauseF (T : TX) (p : Nat) (out : List Nat) (fc : FC) : CR := clause1 T (wordI (aheadI T p)) (wordF T (wN (wordI (aheadI T p))) p out) fc
/-- the reader's other cells and slots -/
def RdK2 (M M1 : Mem) : Prop := (∀ b, b ≠ 65 → b ≠ 67 → M1 b = M b) ∧ ∀ k, k ≠ 2 → k ≠ 3 → k ≠ 5 → k ≠ 6 → k ≠ 7 → M1 65 k = M 65 k
def RdC (T : TX) (r : CR) (M M1 : Mem) : Prop := RdS T r.2.1 r.2.2.1 M1 ∧ (M1 65 6 = nI r.2.2.2.1 ∧ M1 65 7 = nI r.2.2.2.2) ∧ RdK2 M M1
theorem RdK.k2 {M M1 : Mem} (a : RdK M M1) : RdK2 M M1 := ⟨a.1, fun k h1 h2 h3 _ _ => a.2 k h1 h2 h3⟩
theorem RdK2.tr {M M1 M2 : Mem} (a : RdK2 M M1) (b : RdK2 M1 M2) : RdK2 M M2 := ⟨fun q h1 h2 => (b.1 q h1 h2).trans (a.1 q h1 h2), fun k h1 h2 h3 h4 h5 => (b.2 k h1 h2 h3 h4 h5).trans (a.2 k h1 h2 h3 h4 h5)⟩
theorem RdK2.u {M : Mem} {j : Nat} {x : Int32} (hj : j = 6 ∨ j = 7) : RdK2 M (mU M 65 (upd (M 65) j x)) := by
  refine ⟨fun b h1 _ => mU_ne h1, fun k h1 h2 h3 h4 h5 => ?_⟩
  rw [mU_eq]
  exact if_neg (by omega)
theorem RdS.fc {T : TX} {p : Nat} {out : List Nat} {M : Mem} (S : RdS T p out M) {j : Nat} {x : Int32} (hj : j = 6 ∨ j = 7) : RdS T p out (mU M 65 (upd (M 65) j x)) := by
  obtain ⟨⟨a1, a2, a3⟩, ⟨b1, b2⟩, ⟨c1, c2⟩, e⟩ := S
  have g : ∀ k, k ≤ 5 → upd (M 65) j x k = M 65 k := fun k hk => if_neg (by omega)
  refine ⟨⟨?_, a2, fun i hi => ?_⟩, ⟨?_, b2⟩, ⟨?_, c2⟩, fun i hi => ?_⟩
  · rw [mU_eq, g 1 (by omega)]; exact a1
  · rw [mU_ne (by omega)]; exact a3 i hi
  · rw [mU_eq, g 2 (by omega)]; exact b1
  · rw [mU_eq, g 5 (by omega)]; exact c1
  · rw [mU_ne (by omega)]; exact e i hi
theorem word_out {T : TX} : ∀ (l : List Nat) (p : Nat) (out : List Nat), (wordF T l p out).2.2 = out ∧ p ≤ (wordF T l p out).2.1 := by
  intro l
  induction l with
  | nil => intro p out; exact ⟨rfl, Nat.le_refl _⟩
  | cons c cs ih =>
    intro p out
    unfold wordF
    split
    · exact ⟨(ih (p + 1) out).1, Nat.le_of_succ_le (ih (p + 1) out).2⟩
    · exact ⟨rfl, Nat.le_refl _⟩
theorem word_c {T : TX} {p : Nat} {out : List Nat} (h : (wordF T (wN 4) p out).1 = true) : aheadN T p = 99 := by
  have h : (if aheadN T p = 99 then wordF T [111, 115, 116, 32] (p + 1) out else (false, p, out)).1 = true := h
  by_cases e : aheadN T p = 99
  · exact e
  · rw [if_neg e] at h
    exact absurd (show false = true from h) (by decide)
theorem wordI_3 {a : Int32} (h : wordI a = 3) : a = nI 102 := by
  unfold wordI at h
  split at h
  · omega
  · split at h
    · omega
    · split at h
      · assumption
      · omega
theorem RdK.f {M M1 : Mem} {fc : FC} (a : RdK M M1) (h : M 65 6 = nI fc.1 ∧ M 65 7 = nI fc.2) : M1 65 6 = nI fc.1 ∧ M1 65 7 = nI fc.2 := ⟨(a.2 6 (by omega) (by omega) (by omega)).trans h.1, (a.2 7 (by omega) (by omega) (by omega)).trans h.2⟩
theorem wordI_c : wordI (nI 99) = 4 := by decide
theorem wordI_f : wordI (nI 102) = 3 := by decide
theorem wordI_r : wordI (nI 114) = 1 := by decide
theorem wordI_d {a : Int32} (h : ¬ a = nI 114) (h2 : ¬ a = nI 102) (h4 : ¬ wordI a = 4) : wordI a = 2 := by
  unfold wordI at *
  rw [if_neg h] at *
  by_cases e : a = nI 100
  · rw [if_pos e]
  · rw [if_neg e, if_neg h2] at h4
    exact absurd rfl h4
set_option maxRecDepth 10000 in
set_option maxHeartbeats 4000000 in
theorem e_clause : ∀ (d : Nat) {h : hp_T} {T : TX} {p : Nat} {out : List Nat} {fc : FC} {M : Mem} (C : CS h) (S : RdS T p out M) (hf : M 65 6 = nI fc.1 ∧ M 65 7 = nI fc.2), Ei (d + 18) nX3_clause [.ref 65] (wi h M) (fun r M1 => r = b2 (clauseF T p out fc).1 ∧ RdC T (clauseF T p out fc) M M1) := by
  intro d h T p out fc M C S hf
  have n3 := S.ule
  have hw := word_out (T := T) (wN (wordI (aheadI T p))) p out
  generalize hi : wordI (aheadI T p) = i at hw
  refine Ex.of mm_X3_clause (Nat.le_of_ble_eq_true rfl) fun w κ X hk hnm => ?_
  refine r_aload_n (pc := 0) X dX3_clause_0 rfl ?_
  refine r_c0_0P (pc := 1) X rfl dX3_clause_1 tc_3_56 mm_X3_ahead (kc_65 C) rfl rfl (e_ahead (d + 17) C S) (Nat.le_of_ble_eq_true rfl) ?_
  refine r_istore_n (pc := 4) X dX3_clause_4 (Nat.le_of_ble_eq_true rfl) ?_
  refine r_aload_n (pc := 5) X dX3_clause_5 rfl ?_
  refine r_iload_n (pc := 6) X dX3_clause_6 rfl ?_
  refine r_c0_1IW (pc := 7) X rfl dX3_clause_7 tc_3_60 mm_X3_word (kc_65 C) rfl rfl (e_word (d + 13) (aheadI T p) C S) (Nat.le_of_ble_eq_true rfl) (fun r7 M7 q7 => ?_)
  rw [hi] at q7
  refine r_if_eq (pc := 10) X dX3_clause_10 (tgt := 20) (by decide) (fun c10 => ?_) (fun c10 => ?_)
  · refine r_iconst (pc := 20) (v := (nI 0)) X dX3_clause_20 (by decide) ?_
    refine r_iret (pc := 21) X dX3_clause_21 rfl rfl ?_
    first
    | (have e4 : (wordF T (wN i) p out).1 = false := by rw [q7.1] at c10; exact b2_z.mp c10
       have e1 : clauseF T p out fc = (false, (wordF T (wN i) p out).2.1, (wordF T (wN i) p out).2.2, fc) := by
         unfold clauseF clause1 
         rw [hi, if_neg (by rw [e4]; decide)]
       rw [e1]
       exact ⟨⟨_, _, rfl, rfl, rfl, q7.2.1, q7.2.2.f hf, q7.2.2.k2⟩, rfl⟩)
    | (have e5 : (numF T (wordF T (wN i) p out).2.1).1 = false := by rw [q14.1] at c17; exact b2_z.mp c17
       have e1 : clauseF T p out fc = (false, (numF T (wordF T (wN i) p out).2.1).2.1, (wordF T (wN i) p out).2.2, fc) := by
         unfold clauseF clause1 clause2
         rw [hi, if_pos e4, if_neg (by rw [e5]; decide)]
       rw [e1]
       have KA := q7.2.2.tr q14.2.1.2
       exact ⟨⟨_, _, rfl, rfl, rfl, q14.2.1.1, KA.f hf, KA.k2⟩, rfl⟩)
  · have e4 : (wordF T (wN i) p out).1 = true := by rw [q7.1] at c10; exact b2_n.mp c10
    refine r_aload_n (pc := 13) X dX3_clause_13 rfl ?_
    refine r_c0_0IW (pc := 14) X rfl dX3_clause_14 tc_3_63 mm_X3_number (kc_65 C) rfl rfl (e_number (d + 16) C q7.2.1) (Nat.le_of_ble_eq_true rfl) (fun r14 M14 q14 => ?_)
    refine r_if_ne (pc := 17) X dX3_clause_17 (tgt := 22) (by decide) (fun c17 => ?_) (fun c17 => ?_)
    · have e5 : (numF T (wordF T (wN i) p out).2.1).1 = true := by rw [q14.1] at c17; exact b2_n.mp c17
      have S2 := q14.2.1.1
      have KA := q7.2.2.tr q14.2.1.2
      have np_ := num_p.1 e5
      refine r_aload_n (pc := 22) X dX3_clause_22 rfl ?_
      refine r_getiW (pc := 23) X dX3_clause_23 tf_3_66 rfl (kc_65 C) (q14.2.2 e5) ?_
      refine r_istore_n (pc := 26) X dX3_clause_26 (Nat.le_of_ble_eq_true rfl) ?_
      refine r_iload_n (pc := 27) X dX3_clause_27 rfl ?_
      refine r_bipush (pc := 28) (v := (nI 102)) X dX3_clause_28 (by decide) ?_
      refine r_icmp_ne (pc := 30) X dX3_clause_30 (tgt := 40) (by decide) (fun c30 => ?_) (fun c30 => ?_)
      · refine r_iload_n (pc := 40) X dX3_clause_40 rfl ?_
        refine r_bipush (pc := 41) (v := (nI 99)) X dX3_clause_41 (by decide) ?_
        refine r_icmp_ne (pc := 43) X dX3_clause_43 (tgt := 53) (by decide) (fun c43 => ?_) (fun c43 => ?_)
        · have hi3 : ¬ i = 3 := fun z => c30 (wordI_3 (hi.trans z))
          have hi4 : ¬ i = 4 := fun z => by
            rw [z] at e4
            exact c43 ((ahead_of S (by omega)).mpr (word_c e4))
          refine r_aload_n (pc := 53) X dX3_clause_53 rfl ?_
          refine r_bipush (pc := 54) (v := (nI 32)) X dX3_clause_54 (by decide) ?_
          refine r_c0_1IW (pc := 56) X rfl dX3_clause_56 tc_3_41 mm_X3_take (kc_65 C) rfl rfl (e_take (d + 17) C S2 (k := 32) (by decide)) (Nat.le_of_ble_eq_true rfl) (fun r56 M56 q56 => ?_)
          refine r_if_eq (pc := 59) X dX3_clause_59 (tgt := 70) (by decide) (fun c59 => ?_) (fun c59 => ?_)
          · refine r_iconst (pc := 70) (v := (nI 0)) X dX3_clause_70 (by decide) ?_
            refine r_iret (pc := 71) X dX3_clause_71 rfl rfl ?_
            first
            | (have e6 : (takeF T 32 (numF T (wordF T (wN i) p out).2.1).2.1 (wordF T (wN i) p out).2.2).1 = false := by rw [q56.1] at c59; exact b2_z.mp c59
               have e1 : clauseF T p out fc = (false, (takeF T 32 (numF T (wordF T (wN i) p out).2.1).2.1 (wordF T (wN i) p out).2.2).2.1, (takeF T 32 (numF T (wordF T (wN i) p out).2.1).2.1 (wordF T (wN i) p out).2.2).2.2, fc) := by
                 unfold clauseF clause1 clause2 clause3
                 rw [hi, if_pos e4, if_pos e5, if_neg hi3, if_neg hi4, if_neg (by rw [e6]; decide)]
               rw [e1]
               have KB := KA.tr q56.2.2
               exact ⟨⟨_, _, rfl, rfl, rfl, q56.2.1, KB.f hf, KB.k2⟩, rfl⟩)
            | (have e6 : (takeF T 32 (numF T (wordF T (wN i) p out).2.1).2.1 (wordF T (wN i) p out).2.2).1 = true := by rw [q56.1] at c59; exact b2_n.mp c59
               have e7 : (exprF T (factorF T 4) (takeF T 32 (numF T (wordF T (wN i) p out).2.1).2.1 (wordF T (wN i) p out).2.2).2.1 (takeF T 32 (numF T (wordF T (wN i) p out).2.1).2.1 (wordF T (wN i) p out).2.2).2.2).1 = false := by rw [q64.1] at c67; exact b2_z.mp c67
               have e1 : clauseF T p out fc = (false, (exprF T (factorF T 4) (takeF T 32 (numF T (wordF T (wN i) p out).2.1).2.1 (wordF T (wN i) p out).2.2).2.1 (takeF T 32 (numF T (wordF T (wN i) p out).2.1).2.1 (wordF T (wN i) p out).2.2).2.2).2.1, (exprF T (factorF T 4) (takeF T 32 (numF T (wordF T (wN i) p out).2.1).2.1 (wordF T (wN i) p out).2.2).2.1 (takeF T 32 (numF T (wordF T (wN i) p out).2.1).2.1 (wordF T (wN i) p out).2.2).2.2).2.2, fc) := by
                 unfold clauseF clause1 clause2 clause3 clause4
                 rw [hi, if_pos e4, if_pos e5, if_neg hi3, if_neg hi4, if_pos e6, if_neg (by rw [e7]; decide)]
               rw [e1]
               have KB := (KA.tr q56.2.2).tr q64.2.2
               exact ⟨⟨_, _, rfl, rfl, rfl, q64.2.1, KB.f hf, KB.k2⟩, rfl⟩)
          · refine r_aload_n (pc := 62) X dX3_clause_62 rfl ?_
            refine r_iconst (pc := 63) (v := (nI 0)) X dX3_clause_63 (by decide) ?_
            refine r_c0_1IW (pc := 64) X rfl dX3_clause_64 tc_3_68 mm_X3_expression (kc_65 C) rfl rfl (e_expr (d + 15) C (e_factor C 4 (by omega) (d + 16) (by omega)) (grow_fac 4) q56.2.1) (Nat.le_of_ble_eq_true rfl) (fun r64 M64 q64 => ?_)
            refine r_if_ne (pc := 67) X dX3_clause_67 (tgt := 72) (by decide) (fun c67 => ?_) (fun c67 => ?_)
            · have e7 : (exprF T (factorF T 4) (takeF T 32 (numF T (wordF T (wN i) p out).2.1).2.1 (wordF T (wN i) p out).2.2).2.1 (takeF T 32 (numF T (wordF T (wN i) p out).2.1).2.1 (wordF T (wN i) p out).2.2).2.2).1 = true := by rw [q64.1] at c67; exact b2_n.mp c67
              have e6 : (takeF T 32 (numF T (wordF T (wN i) p out).2.1).2.1 (wordF T (wN i) p out).2.2).1 = true := by rw [q56.1] at c59; exact b2_n.mp c59
              have gx := grow_expr (T := T) (grow_fac (T := T) 4) (takeF T 32 (numF T (wordF T (wN i) p out).2.1).2.1 (wordF T (wN i) p out).2.2).2.1 (takeF T 32 (numF T (wordF T (wN i) p out).2.1).2.1 (wordF T (wN i) p out).2.2).2.2
              have hroom : (exprF T (factorF T 4) (takeF T 32 (numF T (wordF T (wN i) p out).2.1).2.1 (wordF T (wN i) p out).2.2).2.1 (takeF T 32 (numF T (wordF T (wN i) p out).2.1).2.1 (wordF T (wN i) p out).2.2).2.2).2.2.length + 1 ≤ (exprF T (factorF T 4) (takeF T 32 (numF T (wordF T (wN i) p out).2.1).2.1 (wordF T (wN i) p out).2.2).2.1 (takeF T 32 (numF T (wordF T (wN i) p out).2.1).2.1 (wordF T (wN i) p out).2.2).2.2).2.1 := by
                have a1 := S2.ule
                have a2 : (takeF T 32 (numF T (wordF T (wN i) p out).2.1).2.1 (wordF T (wN i) p out).2.2) = (true, (numF T (wordF T (wN i) p out).2.1).2.1 + 1, (wordF T (wN i) p out).2.2) := by
                  by_cases z : aheadN T (numF T (wordF T (wN i) p out).2.1).2.1 = 32
                  · exact if_pos z
                  · exfalso
                    have a3 : (takeF T 32 (numF T (wordF T (wN i) p out).2.1).2.1 (wordF T (wN i) p out).2.2) = (false, (numF T (wordF T (wN i) p out).2.1).2.1, (wordF T (wN i) p out).2.2) := if_neg z
                    rw [a3] at e6
                    exact absurd (show false = true from e6) (by decide)
                rw [a2] at gx ⊢
                have a4 : _ + ((numF T (wordF T (wN i) p out).2.1).2.1 + 1) ≤ (wordF T (wN i) p out).2.2.length + _ := gx
                have a5 : (wordF T (wN i) p out).2.2.length ≤ (numF T (wordF T (wN i) p out).2.1).2.1 := a1
                omega
              refine r_aload_n (pc := 72) X dX3_clause_72 rfl ?_
              refine r_iload_n (pc := 73) X dX3_clause_73 rfl ?_
              refine r_bipush (pc := 74) (v := (nI 114)) X dX3_clause_74 (by decide) ?_
              refine r_icmp_ne (pc := 76) X dX3_clause_76 (tgt := 84) (by decide) (fun c76 => ?_) (fun c76 => ?_)
              · refine r_bipush (pc := 84) (v := (nI 7)) X dX3_clause_84 (by decide) ?_
                refine r_iconst (pc := 86) (v := (nI 0)) X dX3_clause_86 (by decide) ?_
                refine r_iload_n (pc := 87) X dX3_clause_87 rfl ?_
                refine r_c0_3VW (pc := 88) X rfl dX3_clause_88 tc_3_71 mm_X3_emit (kc_65 C) rfl rfl (e_emit (d + 16) C q64.2.1 (by decide) (by decide) num_lt hroom) (Nat.le_of_ble_eq_true rfl) (fun M88 q88 => ?_)
                refine r_iconst (pc := 91) (v := (nI 1)) X dX3_clause_91 (by decide) ?_
                refine r_iret (pc := 92) X dX3_clause_92 rfl rfl ?_
                have KB := ((KA.tr q56.2.2).tr q64.2.2).tr q88.2
                first
                | (have hi1 : i = 1 := by
                     rw [← hi, c76]; exact wordI_r
                   have e1 : clauseF T p out fc = (true, (exprF T (factorF T 4) (takeF T 32 (numF T (wordF T (wN i) p out).2.1).2.1 (wordF T (wN i) p out).2.2).2.1 (takeF T 32 (numF T (wordF T (wN i) p out).2.1).2.1 (wordF T (wN i) p out).2.2).2.2).2.1, (exprF T (factorF T 4) (takeF T 32 (numF T (wordF T (wN i) p out).2.1).2.1 (wordF T (wN i) p out).2.2).2.1 (takeF T 32 (numF T (wordF T (wN i) p out).2.1).2.1 (wordF T (wN i) p out).2.2).2.2).2.2 ++ [6 * 65536 + 0 * 256 + (numF T (wordF T (wN i) p out).2.1).2.2], fc) := by
                     unfold clauseF clause1 clause2 clause3 clause4
                     rw [hi, if_pos e4, if_pos e5, if_neg hi3, if_neg hi4, if_pos e6, if_pos e7, if_pos hi1]
                   rw [e1]
                   exact ⟨⟨_, _, rfl, rfl, rfl, q88.1, KB.f hf, KB.k2⟩, rfl⟩)
                | (have hi1 : ¬ i = 1 := by
                     rw [← hi, wordI_d c76 c30 (fun z => hi4 (hi.symm.trans z))]; decide
                   have e1 : clauseF T p out fc = (true, (exprF T (factorF T 4) (takeF T 32 (numF T (wordF T (wN i) p out).2.1).2.1 (wordF T (wN i) p out).2.2).2.1 (takeF T 32 (numF T (wordF T (wN i) p out).2.1).2.1 (wordF T (wN i) p out).2.2).2.2).2.1, (exprF T (factorF T 4) (takeF T 32 (numF T (wordF T (wN i) p out).2.1).2.1 (wordF T (wN i) p out).2.2).2.1 (takeF T 32 (numF T (wordF T (wN i) p out).2.1).2.1 (wordF T (wN i) p out).2.2).2.2).2.2 ++ [7 * 65536 + 0 * 256 + (numF T (wordF T (wN i) p out).2.1).2.2], fc) := by
                     unfold clauseF clause1 clause2 clause3 clause4
                     rw [hi, if_pos e4, if_pos e5, if_neg hi3, if_neg hi4, if_pos e6, if_pos e7, if_neg hi1]
                   rw [e1]
                   exact ⟨⟨_, _, rfl, rfl, rfl, q88.1, KB.f hf, KB.k2⟩, rfl⟩)
              · refine r_bipush (pc := 79) (v := (nI 6)) X dX3_clause_79 (by decide) ?_
                refine r_goto (pc := 81) X dX3_clause_81 (tgt := 86) (by decide) ?_
                refine r_iconst (pc := 86) (v := (nI 0)) X dX3_clause_86 (by decide) ?_
                refine r_iload_n (pc := 87) X dX3_clause_87 rfl ?_
                refine r_c0_3VW (pc := 88) X rfl dX3_clause_88 tc_3_71 mm_X3_emit (kc_65 C) rfl rfl (e_emit (d + 16) C q64.2.1 (by decide) (by decide) num_lt hroom) (Nat.le_of_ble_eq_true rfl) (fun M88 q88 => ?_)
                refine r_iconst (pc := 91) (v := (nI 1)) X dX3_clause_91 (by decide) ?_
                refine r_iret (pc := 92) X dX3_clause_92 rfl rfl ?_
                have KB := ((KA.tr q56.2.2).tr q64.2.2).tr q88.2
                first
                | (have hi1 : i = 1 := by
                     rw [← hi, c76]; exact wordI_r
                   have e1 : clauseF T p out fc = (true, (exprF T (factorF T 4) (takeF T 32 (numF T (wordF T (wN i) p out).2.1).2.1 (wordF T (wN i) p out).2.2).2.1 (takeF T 32 (numF T (wordF T (wN i) p out).2.1).2.1 (wordF T (wN i) p out).2.2).2.2).2.1, (exprF T (factorF T 4) (takeF T 32 (numF T (wordF T (wN i) p out).2.1).2.1 (wordF T (wN i) p out).2.2).2.1 (takeF T 32 (numF T (wordF T (wN i) p out).2.1).2.1 (wordF T (wN i) p out).2.2).2.2).2.2 ++ [6 * 65536 + 0 * 256 + (numF T (wordF T (wN i) p out).2.1).2.2], fc) := by
                     unfold clauseF clause1 clause2 clause3 clause4
                     rw [hi, if_pos e4, if_pos e5, if_neg hi3, if_neg hi4, if_pos e6, if_pos e7, if_pos hi1]
                   rw [e1]
                   exact ⟨⟨_, _, rfl, rfl, rfl, q88.1, KB.f hf, KB.k2⟩, rfl⟩)
                | (have hi1 : ¬ i = 1 := by
                     rw [← hi, wordI_d c76 c30 (fun z => hi4 (hi.symm.trans z))]; decide
                   have e1 : clauseF T p out fc = (true, (exprF T (factorF T 4) (takeF T 32 (numF T (wordF T (wN i) p out).2.1).2.1 (wordF T (wN i) p out).2.2).2.1 (takeF T 32 (numF T (wordF T (wN i) p out).2.1).2.1 (wordF T (wN i) p out).2.2).2.2).2.1, (exprF T (factorF T 4) (takeF T 32 (numF T (wordF T (wN i) p out).2.1).2.1 (wordF T (wN i) p out).2.2).2.1 (takeF T 32 (numF T (wordF T (wN i) p out).2.1).2.1 (wordF T (wN i) p out).2.2).2.2).2.2 ++ [7 * 65536 + 0 * 256 + (numF T (wordF T (wN i) p out).2.1).2.2], fc) := by
                     unfold clauseF clause1 clause2 clause3 clause4
                     rw [hi, if_pos e4, if_pos e5, if_neg hi3, if_neg hi4, if_pos e6, if_pos e7, if_neg hi1]
                   rw [e1]
                   exact ⟨⟨_, _, rfl, rfl, rfl, q88.1, KB.f hf, KB.k2⟩, rfl⟩)
            · refine r_iconst (pc := 70) (v := (nI 0)) X dX3_clause_70 (by decide) ?_
              refine r_iret (pc := 71) X dX3_clause_71 rfl rfl ?_
              first
              | (have e6 : (takeF T 32 (numF T (wordF T (wN i) p out).2.1).2.1 (wordF T (wN i) p out).2.2).1 = false := by rw [q56.1] at c59; exact b2_z.mp c59
                 have e1 : clauseF T p out fc = (false, (takeF T 32 (numF T (wordF T (wN i) p out).2.1).2.1 (wordF T (wN i) p out).2.2).2.1, (takeF T 32 (numF T (wordF T (wN i) p out).2.1).2.1 (wordF T (wN i) p out).2.2).2.2, fc) := by
                   unfold clauseF clause1 clause2 clause3
                   rw [hi, if_pos e4, if_pos e5, if_neg hi3, if_neg hi4, if_neg (by rw [e6]; decide)]
                 rw [e1]
                 have KB := KA.tr q56.2.2
                 exact ⟨⟨_, _, rfl, rfl, rfl, q56.2.1, KB.f hf, KB.k2⟩, rfl⟩)
              | (have e6 : (takeF T 32 (numF T (wordF T (wN i) p out).2.1).2.1 (wordF T (wN i) p out).2.2).1 = true := by rw [q56.1] at c59; exact b2_n.mp c59
                 have e7 : (exprF T (factorF T 4) (takeF T 32 (numF T (wordF T (wN i) p out).2.1).2.1 (wordF T (wN i) p out).2.2).2.1 (takeF T 32 (numF T (wordF T (wN i) p out).2.1).2.1 (wordF T (wN i) p out).2.2).2.2).1 = false := by rw [q64.1] at c67; exact b2_z.mp c67
                 have e1 : clauseF T p out fc = (false, (exprF T (factorF T 4) (takeF T 32 (numF T (wordF T (wN i) p out).2.1).2.1 (wordF T (wN i) p out).2.2).2.1 (takeF T 32 (numF T (wordF T (wN i) p out).2.1).2.1 (wordF T (wN i) p out).2.2).2.2).2.1, (exprF T (factorF T 4) (takeF T 32 (numF T (wordF T (wN i) p out).2.1).2.1 (wordF T (wN i) p out).2.2).2.1 (takeF T 32 (numF T (wordF T (wN i) p out).2.1).2.1 (wordF T (wN i) p out).2.2).2.2).2.2, fc) := by
                   unfold clauseF clause1 clause2 clause3 clause4
                   rw [hi, if_pos e4, if_pos e5, if_neg hi3, if_neg hi4, if_pos e6, if_neg (by rw [e7]; decide)]
                 rw [e1]
                 have KB := (KA.tr q56.2.2).tr q64.2.2
                 exact ⟨⟨_, _, rfl, rfl, rfl, q64.2.1, KB.f hf, KB.k2⟩, rfl⟩)
        · refine r_aload_n (pc := 46) X dX3_clause_46 rfl ?_
          refine r_iload_n (pc := 47) X dX3_clause_47 rfl ?_
          refine r_putiW (pc := 48) X dX3_clause_48 tf_3_34 rfl (Or.inl rfl) (kc_65 C) ⟨rfl, rfl⟩ ?_
          refine r_iconst (pc := 51) (v := (nI 1)) X dX3_clause_51 (by decide) ?_
          refine r_iret (pc := 52) X dX3_clause_52 rfl rfl ?_
          have hi4 : i = 4 := by rw [← hi, c43]; exact wordI_c
          have e1 : clauseF T p out fc = (true, (numF T (wordF T (wN i) p out).2.1).2.1, (wordF T (wN i) p out).2.2, (fc.1, (numF T (wordF T (wN i) p out).2.1).2.2)) := by
            unfold clauseF clause1 clause2
            rw [hi, if_pos e4, if_pos e5, if_neg (by omega), if_pos hi4]
          rw [e1]
          exact ⟨⟨_, _, rfl, rfl, rfl, S2.fc (Or.inr rfl), ⟨by rw [mU_eq]; exact (KA.f hf).1, by rw [mU_eq]; rfl⟩, KA.k2.tr (RdK2.u (Or.inr rfl))⟩, rfl⟩
      · refine r_aload_n (pc := 33) X dX3_clause_33 rfl ?_
        refine r_iload_n (pc := 34) X dX3_clause_34 rfl ?_
        refine r_putiW (pc := 35) X dX3_clause_35 tf_3_31 rfl (Or.inl rfl) (kc_65 C) ⟨rfl, rfl⟩ ?_
        refine r_iconst (pc := 38) (v := (nI 1)) X dX3_clause_38 (by decide) ?_
        refine r_iret (pc := 39) X dX3_clause_39 rfl rfl ?_
        have hi3 : i = 3 := by rw [← hi, c30]; exact wordI_f
        have e1 : clauseF T p out fc = (true, (numF T (wordF T (wN i) p out).2.1).2.1, (wordF T (wN i) p out).2.2, ((numF T (wordF T (wN i) p out).2.1).2.2, fc.2)) := by
          unfold clauseF clause1 clause2
          rw [hi, if_pos e4, if_pos e5, if_pos hi3]
        rw [e1]
        exact ⟨⟨_, _, rfl, rfl, rfl, S2.fc (Or.inl rfl), ⟨by rw [mU_eq]; rfl, by rw [mU_eq]; exact (KA.f hf).2⟩, KA.k2.tr (RdK2.u (Or.inl rfl))⟩, rfl⟩
    · refine r_iconst (pc := 20) (v := (nI 0)) X dX3_clause_20 (by decide) ?_
      refine r_iret (pc := 21) X dX3_clause_21 rfl rfl ?_
      first
      | (have e4 : (wordF T (wN i) p out).1 = false := by rw [q7.1] at c10; exact b2_z.mp c10
         have e1 : clauseF T p out fc = (false, (wordF T (wN i) p out).2.1, (wordF T (wN i) p out).2.2, fc) := by
           unfold clauseF clause1 
           rw [hi, if_neg (by rw [e4]; decide)]
         rw [e1]
         exact ⟨⟨_, _, rfl, rfl, rfl, q7.2.1, q7.2.2.f hf, q7.2.2.k2⟩, rfl⟩)
      | (have e5 : (numF T (wordF T (wN i) p out).2.1).1 = false := by rw [q14.1] at c17; exact b2_z.mp c17
         have e1 : clauseF T p out fc = (false, (numF T (wordF T (wN i) p out).2.1).2.1, (wordF T (wN i) p out).2.2, fc) := by
           unfold clauseF clause1 clause2
           rw [hi, if_pos e4, if_neg (by rw [e5]; decide)]
         rw [e1]
         have KA := q7.2.2.tr q14.2.1.2
         exact ⟨⟨_, _, rfl, rfl, rfl, q14.2.1.1, KA.f hf, KA.k2⟩, rfl⟩)
