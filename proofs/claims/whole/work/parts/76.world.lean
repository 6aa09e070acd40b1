/-! the world that the law begins in -/
def fl_G : List Cond := flatC (.and given_1 narrow_1)
theorem fl_above : ∀ j, j < 7 → Cond.eq (.elem (.static "LastAtPump" "ABOVE" "[I") (.int (Int32.ofNat j))) (.int (aboveL.getD j 0)) ∈ fl_G := by decide +kernel
theorem fl_bodies : ∀ j, j < 21 → Cond.eq (.elem (.static "LastAtPump$Acts" "BODIES" "[I") (.int (Int32.ofNat j))) (.int (bodiesL.getD j 0)) ∈ fl_G := by decide +kernel
theorem fl_a : Cond.arrayOf (.static "LastAtPump" "ABOVE" "[I") .int ∈ fl_G ∧ Cond.eq (.length (.static "LastAtPump" "ABOVE" "[I")) (.int (Int32.ofNat 7)) ∈ fl_G := by decide +kernel
theorem fl_b : Cond.arrayOf (.static "LastAtPump$Acts" "BODIES" "[I") .int ∈ fl_G ∧ Cond.eq (.length (.static "LastAtPump$Acts" "BODIES" "[I")) (.int (Int32.ofNat 21)) ∈ fl_G := by decide +kernel
theorem fl_c : Cond.eq (.static "java/lang/String" "COMPACT_STRINGS" "Z") (.int 1) ∈ fl_G ∧ Cond.isRef (.static "jdk/internal/util/Preconditions" "SIOOBE_FORMATTER" "Ljava/util/function/BiFunction;") ∈ fl_G := by decide +kernel
abbrev sTm (i : Nat) : Term := .string (cn (sOwn i)) (sIdx i)
abbrev sVa (i : Nat) : Term := .field (sTm i) "java/lang/String" "value" "[B"
theorem fl_str : ∀ i, i < 7 → Cond.exactly (sTm i) "java/lang/String" ∈ fl_G ∧ Cond.eq (.field (sTm i) "java/lang/String" "coder" "B") (.int 0) ∈ fl_G ∧ Cond.arrayOf (sVa i) .byte ∈ fl_G ∧ Cond.eq (.length (sVa i)) (.int (Int32.ofNat (sBy i).length)) ∈ fl_G := by decide +kernel
theorem fl_byt : ∀ i, i < 7 → ∀ j, j < (sBy i).length → Cond.eq (.elem (sVa i) (.int (Int32.ofNat j))) (.int ((sBy i).getD j 0)) ∈ fl_G := by decide +kernel
theorem tr_str : ∀ i, i < 7 → Cond.stringRef (cn (sOwn i)) (sIdx i) (sTx i) ∈ lw_tbl := by
  intro i hi
  rcases (show i = 0 ∨ i = 1 ∨ i = 2 ∨ i = 3 ∨ i = 4 ∨ i = 5 ∨ i = 6 by omega) with e | e | e | e | e | e | e <;> subst e
  · exact List.mem_of_getElem? (i := 508) (by decide +kernel)
  · exact List.mem_of_getElem? (i := 436) (by decide +kernel)
  · exact List.mem_of_getElem? (i := 437) (by decide +kernel)
  · exact List.mem_of_getElem? (i := 438) (by decide +kernel)
  · exact List.mem_of_getElem? (i := 439) (by decide +kernel)
  · exact List.mem_of_getElem? (i := 508) (by decide +kernel)
  · exact List.mem_of_getElem? (i := 570) (by decide +kernel)
theorem ls_a : Cond.laysStatic "LastAtPump" "ABOVE" "[I" ∈ lw_tbl := List.mem_of_getElem? (i := 839) (by decide +kernel)
theorem ls_b : Cond.laysStatic "LastAtPump$Acts" "BODIES" "[I" ∈ lw_tbl := List.mem_of_getElem? (i := 814) (by decide +kernel)
theorem ls_c : Cond.laysStatic "java/lang/String" "COMPACT_STRINGS" "Z" ∈ lw_tbl := List.mem_of_getElem? (i := 449) (by decide +kernel)
theorem ls_d : Cond.laysStatic "jdk/internal/util/Preconditions" "SIOOBE_FORMATTER" "Ljava/util/function/BiFunction;" ∈ lw_tbl := List.mem_of_getElem? (i := 465) (by decide +kernel)
theorem li_a : Cond.initialized "LastAtPump" ∈ lw_tbl := List.mem_of_getElem? (i := 77) (by decide +kernel)
theorem li_b : Cond.initialized "LastAtPump$Acts" ∈ lw_tbl := List.mem_of_getElem? (i := 82) (by decide +kernel)
theorem li_c : Cond.initialized "java/lang/String" ∈ lw_tbl := List.mem_of_getElem? (i := 87) (by decide +kernel)
theorem li_d : Cond.initialized "jdk/internal/util/Preconditions" ∈ lw_tbl := List.mem_of_getElem? (i := 89) (by decide +kernel)
section S76
variable {args : Array Value} {s : State} {A : Nat → Prop}
theorem w_str (hg : ∀ q ∈ fl_G, q.before args s = true) (hts : ∀ q ∈ lw_tbl, q.before args s = true) (hA : ∀ a : Nat, a < s.heap.size → ¬ A a) : ∀ i : Nat, ∃ q : Nat × Nat, i < 7 → vk_R (cn (sOwn i)) (sIdx i) (sTx i) q.1 s ∧ va_O "java/lang/String" q.1 A s s.heap ∧ va_OF "java/lang/String" "coder" "B" (.int 0) q.1 A s s.heap ∧ va_OF "java/lang/String" "value" "[B" (.ref q.2) q.1 A s s.heap ∧ va_T .byte q.2 (sBy i).length (fun j => .int ((sBy i).getD j 0)) A s s.heap := by
  intro i
  by_cases hi : i < 7
  · obtain ⟨f1, f2, f3, f4⟩ := fl_str i hi
    obtain ⟨a, c, cA, kA, q1, q2, q3, q4, q5, q6, -⟩ := Cond.exactly_spec (args := args) (first := s) (o := none) (s := s) (idx := []) (t := sTm i) (cls := "java/lang/String") (hg _ f1)
    obtain ⟨t, ht, hT⟩ := va_Tof (f := fun j => .int ((sBy i).getD j 0)) (A := A) (sBy_31 i hi) (hg _ f3) (va_eqt (hg _ f4)) (fun j hj => va_eqt (hg _ (fl_byt i hi j hj))) hA
    exact ⟨(a, t), fun _ => ⟨vk_R.of (hts _ (tr_str i hi)) q1, ⟨cA, q3, q5, by rw [q6]; exact q2, hA a (Array.getElem?_eq_some_iff.mp q3).1⟩, vk_OFof q1 (va_eqt (hg _ f2)) hA, vk_OFof q1 ht hA, hT⟩⟩
  · exact ⟨(0, 0), fun h => absurd h hi⟩
theorem w_tn : ∀ c : Nat, c < 9 → ∃ own idx : Nat, tn own idx c := by
  intro c hc
  rcases (show c = 0 ∨ c = 1 ∨ c = 2 ∨ c = 3 ∨ c = 4 ∨ c = 5 ∨ c = 6 ∨ c = 7 ∨ c = 8 by omega) with e | e | e | e | e | e | e | e | e <;> subst e
  · exact ⟨7, 39, tn_7_39⟩
  · exact ⟨3, 45, tn_3_45⟩
  · exact ⟨4, 18, tn_4_18⟩
  · exact ⟨7, 32, tn_7_32⟩
  · exact ⟨7, 9, tn_7_9⟩
  · exact ⟨4, 9, tn_4_9⟩
  · exact ⟨7, 46, tn_7_46⟩
  · exact ⟨9, 7, tn_9_7⟩
  · exact ⟨9, 10, tn_9_10⟩
theorem w_cls (hts : ∀ q ∈ lw_tbl, q.before args s = true) : ∀ c : Nat, ∃ q : ClassId × (Nat → Nat), ∀ r : vw_C, vwCl[c]? = some r → u_Kn s r.1 r.2.1 r.2.2 q.1 q.2 := by
  intro c
  by_cases hc : c < 9
  · obtain ⟨own, idx, r, hr, -, hm2, -⟩ := w_tn c hc
    obtain ⟨cC, iS, hk⟩ := u_known (ws := gd_W) (s := s) (args := args) (C := r.1) (T := r.2.1) (N := r.2.2) (n := r.2.2) (fun x hx => hts x (List.mem_filter.mp hx).1) (cf_all hr).2.2.1 (hts _ hm2)
    refine ⟨(cC, iS), fun r2 h2 => ?_⟩
    rw [hr] at h2
    cases h2
    exact hk
  · refine ⟨(0, fun _ => 0), fun r hr => ?_⟩
    have h9 : vwCl.length = 9 := rfl
    have h8 := (List.getElem?_eq_some_iff.mp hr).1
    exact absurd (h9 ▸ h8) hc
theorem w_arr {ty : FieldType} (h : (Cond.arrayClass ty).before args s = true) : ∃ cA : ClassId, s.vm.findClass ("[" ++ ty.toString) = some cA ∧ ArrOfT s cA ty := by
  obtain ⟨cA, kA, comp, h1, h2, h3⟩ := Cond.arrayClass_spec h
  exact ⟨cA, h1, fun n z => ⟨fun k e => (by cases e), kA, h2, comp, h3⟩⟩
theorem w_K (hts : ∀ q ∈ lw_tbl, q.before args s = true) : ∃ (D : va_G) (ci : Nat → ClassId), va_K D vwCl [(ci 1, .int), (ci 2, .byte), (ci 3, .boolean), (ci 4, .long), (ci 5, .array .long)] s := by
  obtain ⟨ad, had⟩ := Classical.axiomOfChoice (w_cls hts)
  obtain ⟨c1, a1, b1⟩ := w_arr (hts _ ta_int)
  obtain ⟨c2, a2, b2⟩ := w_arr (hts _ ta_byte)
  obtain ⟨c3, a3, b3⟩ := w_arr (hts _ ta_boolean)
  obtain ⟨c4, a4, b4⟩ := w_arr (hts _ ta_long)
  obtain ⟨comp, c5, k5, e1, e2, e3, e4⟩ := Cond.arrayOver_specA (hts _ ta_over)
  refine ⟨(fun c => (ad c).1, fun c => (ad c).2), fun k => if k = 1 then c1 else if k = 2 then c2 else if k = 3 then c3 else if k = 4 then c4 else c5, fun c q hq => had c q hq, fun k q hk => ?_⟩
  match k, hk with
  | 0, hk => cases hk; exact ⟨b1, a1⟩
  | 1, hk => cases hk; exact ⟨b2, a2⟩
  | 2, hk => cases hk; exact ⟨b3, a3⟩
  | 3, hk => cases hk; exact ⟨b4, a4⟩
  | 4, hk => cases hk; exact ⟨fun n z => ⟨fun k e => (by cases e), k5, e2, comp, e3⟩, e4⟩
  | k + 5, hk => simp at hk
theorem w_Wd {b L : Nat} {xs : Nat → Int32} (hg : ∀ q ∈ fl_G, q.before args s = true) (hts : ∀ q ∈ lw_tbl, q.before args s = true) (hX : va_X b L xs s s.heap) (hbl : b < s.heap.size) : ∃ w : wc_T, w.1 = s.heap.size ∧ w.2.1 0 = b ∧ w.2.2.2.2.2.1 = L ∧ Wd w s s.heap := by
  have hA : ∀ a : Nat, a < s.heap.size → ¬ (fun q : Nat => s.heap.size ≤ q) a := fun a h => Nat.not_le.mpr h
  obtain ⟨D, ci, hK⟩ := w_K hts
  obtain ⟨ad, had⟩ := Classical.axiomOfChoice (w_str hg hts hA)
  obtain ⟨ta, ea, ha⟩ := va_Tof (tm := .static "LastAtPump" "ABOVE" "[I") (ty := .int) (N := 7) (f := fun j => .int (aboveL.getD j 0)) (by decide) (hg _ fl_a.1) (va_eqt (hg _ fl_a.2)) (fun j hj => va_eqt (hg _ (fl_above j hj))) hA
  obtain ⟨tb, eb, hb⟩ := va_Tof (tm := .static "LastAtPump$Acts" "BODIES" "[I") (ty := .int) (N := 21) (f := fun j => .int (bodiesL.getD j 0)) (by decide) (hg _ fl_b.1) (va_eqt (hg _ fl_b.2)) (fun j hj => va_eqt (hg _ (fl_bodies j hj))) hA
  have za := va_Zof (hts _ ls_a) (hts _ li_a) ea hA
  have zb := va_Zof (hts _ ls_b) (hts _ li_b) eb hA
  have zc := va_Zof (hts _ ls_c) (hts _ li_c) (va_eqi (hg _ fl_c.1)) hA
  have zd := va_Zqof (hts _ ls_d) (hts _ li_d) (hg _ fl_c.2) hA
  obtain ⟨sr, zd⟩ : ∃ sr : Option Nat, va_Z "jdk/internal/util/Preconditions" "SIOOBE_FORMATTER" "Ljava/util/function/BiFunction;" (va_rf sr) (fun q : Nat => s.heap.size ≤ q) s s.heap := by
    rcases zd with zd | ⟨t, zd⟩
    · exact ⟨none, zd⟩
    · exact ⟨some t, zd⟩
  refine ⟨(s.heap.size, (fun k => if k = 0 then b else if k = 1 then ta else if k = 2 then tb else if k < 10 then (ad (k - 3)).1 else (ad (k - 10)).2), sr, D, ci, L, xs), rfl, rfl, rfl, hK, hX, ⟨hbl, hbl⟩, ⟨za, ha⟩, ⟨zb, hb⟩, ⟨zc, zd⟩, fun i hi => ?_, fun a i x b hx => va_Nw.of rfl (hts _ hx), va_Nw.of rfl (hts _ ta_cast), ov_same rfl (hts _ ta_over)⟩
  have e3 : (if 3 + i = 0 then b else if 3 + i = 1 then ta else if 3 + i = 2 then tb else if 3 + i < 10 then (ad (3 + i - 3)).1 else (ad (3 + i - 10)).2) = (ad i).1 := by
    rw [if_neg (by omega), if_neg (by omega), if_neg (by omega), if_pos (by omega), show 3 + i - 3 = i by omega]
  have e10 : (if 10 + i = 0 then b else if 10 + i = 1 then ta else if 10 + i = 2 then tb else if 10 + i < 10 then (ad (10 + i - 3)).1 else (ad (10 + i - 10)).2) = (ad i).2 := by
    rw [if_neg (by omega), if_neg (by omega), if_neg (by omega), if_neg (by omega), show 10 + i - 10 = i by omega]
  have q := had i hi
  rw [← e3, ← e10] at q
  exact q
end S76
