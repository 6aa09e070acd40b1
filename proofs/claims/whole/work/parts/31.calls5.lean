/-! acts, tapes, the image, evenings -/
def BlR (l : List Int32) (M : Mem) : Prop := M 68 1 = nI l.length ∧ ∀ i, i < l.length → i < 20 → M 69 i = l.getD i 0
theorem BlR.beg {l : List Int32} {M : Mem} (h : BlR l M) (hl : l.length < 1000000) (b : Int32) : BlR (l ++ [b]) (begM M b) ∧ ∀ q, q ≠ 68 → q ≠ 69 → begM M b q = M q := by
  by_cases c : l.length < 20
  · rw [begM_lt h.1 c]
    refine ⟨⟨by rw [mU_eq, List.length_append]; show M 68 1 + nI 1 = _; rw [h.1, nI_add]; rfl, fun i hi h20 => ?_⟩, fun q h1 h2 => by rw [mU_ne h1, mU_ne h2]⟩
    rw [List.length_append] at hi
    have hi : i < l.length + 1 := hi
    rw [mU_ne (by omega), mU_eq]
    by_cases e : i = l.length
    · subst e
      show (if l.length = l.length then b else _) = _
      rw [if_pos rfl, List.getD_eq_getElem?_getD, List.getElem?_append_right (Nat.le_refl _), Nat.sub_self]
      rfl
    · show (if i = l.length then b else M 69 i) = _
      rw [if_neg e, List.getD_eq_getElem?_getD, List.getElem?_append_left (by omega), ← List.getD_eq_getElem?_getD]
      exact h.2 i (by omega) h20
  · rw [begM_ge h.1 (by omega) (by omega)]
    refine ⟨⟨by rw [mU_eq, List.length_append]; show M 68 1 + nI 1 = _; rw [h.1, nI_add]; rfl, fun i hi h20 => ?_⟩, fun q h1 h2 => by rw [mU_ne h1]⟩
    rw [mU_ne (by omega), List.getD_eq_getElem?_getD, List.getElem?_append_left (by omega), ← List.getD_eq_getElem?_getD]
    exact h.2 i (by omega) h20
def SimR (N T : Nat) (R : Nat → Nat → Int32 → Mem → Int32 × Mem) (R2 : Nat → Nat → Int32 → List Int32 → Int32 × List Int32) : Prop := ∀ (a k : Nat) (x : Int32) (M : Mem) (l : List Int32), a ≤ 2 → k ≤ 6 → l.length ≤ N → BlR l M → (R a k x M).1 = (R2 a k x l).1 ∧ BlR (R2 a k x l).2 (R a k x M).2 ∧ (R2 a k x l).2.length ≤ l.length + T ∧ ∀ q, q ≠ 68 → q ≠ 69 → (R a k x M).2 q = M q
theorem with_sim {N T ko : Nat} {v i : Int32} {R : Nat → Nat → Int32 → Mem → Int32 × Mem} {R2 : Nat → Nat → Int32 → List Int32 → Int32 × List Int32} (H : SimR N T R R2) (hko : ko ≤ 6) (b x : Int32) (M : Mem) (l : List Int32) (hl : l.length + T ≤ N) (hB : BlR l M)
    (hb : b = nI 10 ∨ b = nI 11 ∨ b = nI 12 ∨ b = nI 20 ∨ b = nI 30 ∨ b = nI 40 ∨ b = nI 50 ∨ b = nI 51 ∨ b = nI 60 ∨ b = nI 70 ∨ b = nI 71) :
    (withF R ko v i b x M).1 = (withL R2 ko v i b x l).1 ∧ BlR (withL R2 ko v i b x l).2 (withF R ko v i b x M).2 ∧ (withL R2 ko v i b x l).2.length ≤ l.length + T + T ∧ ∀ q, q ≠ 68 → q ≠ 69 → (withF R ko v i b x M).2 q = M q := by
  rcases hb with rfl | rfl | rfl | rfl | rfl | rfl | rfl | rfl | rfl | rfl | rfl
  · exact ⟨rfl, hB, by show l.length ≤ _; omega, fun _ _ _ => rfl⟩
  · obtain ⟨h1, h2, h3, h4⟩ := H 0 ko x M l (by omega) hko (by omega) hB
    exact ⟨congrArg (· - v) h1, h2, Nat.le_trans h3 (by omega), h4⟩
  · obtain ⟨h1, h2, h3, h4⟩ := H 1 ko x M l (by omega) hko (by omega) hB
    exact ⟨congrArg (· * nI 2) h1, h2, Nat.le_trans h3 (by omega), h4⟩
  · obtain ⟨h1, h2, h3, h4⟩ := H 1 0 x M l (by omega) (by omega) (by omega) hB
    exact ⟨congrArg (· ^^^ nI 6) h1, h2, Nat.le_trans h3 (by omega), h4⟩
  · obtain ⟨h1, h2, h3, h4⟩ := H 0 0 (x * nI 3) M l (by omega) (by omega) (by omega) hB
    exact ⟨h1, h2, Nat.le_trans h3 (by omega), h4⟩
  · obtain ⟨h1, h2, h3, h4⟩ := H 2 0 x M l (by omega) (by omega) (by omega) hB
    obtain ⟨g1, g2, g3, g4⟩ := H 1 ko (nI 1) _ _ (by omega) hko (by omega) h2
    exact ⟨(congrArg (· + _) h1).trans (congrArg (_ + ·) g1), g2, Nat.le_trans g3 (by omega), fun q q1 q2 => (g4 q q1 q2).trans (h4 q q1 q2)⟩
  · obtain ⟨h1, h2, h3, h4⟩ := H 0 1 x M l (by omega) (by omega) (by omega) hB
    exact ⟨congrArg (- ·) h1, h2, Nat.le_trans h3 (by omega), h4⟩
  · obtain ⟨h1, h2, h3, h4⟩ := H 1 1 (x + nI 1) M l (by omega) (by omega) (by omega) hB
    exact ⟨h1, h2, Nat.le_trans h3 (by omega), h4⟩
  · obtain ⟨h1, h2, h3, h4⟩ := H 2 2 (x - i) M l (by omega) (by omega) (by omega) hB
    exact ⟨h1, h2, Nat.le_trans h3 (by omega), h4⟩
  · obtain ⟨h1, h2, h3, h4⟩ := H 1 3 x M l (by omega) (by omega) (by omega) hB
    obtain ⟨g1, g2, g3, g4⟩ := H 0 3 (nI 2) _ _ (by omega) (by omega) (by omega) h2
    exact ⟨(congrArg (· + _) h1).trans (congrArg (_ + ·) g1), g2, Nat.le_trans g3 (by omega), fun q q1 q2 => (g4 q q1 q2).trans (h4 q q1 q2)⟩
  · obtain ⟨h1, h2, h3, h4⟩ := H 0 3 x M l (by omega) (by omega) (by omega) hB
    exact ⟨congrArg (· ^^^ v) h1, h2, Nat.le_trans h3 (by omega), h4⟩
theorem run_sim {ko : Nat} {v i : Int32} (hko : ko ≤ 6) : ∀ n N, N + 3 ^ n ≤ 999999 → SimR N (3 ^ n) (runM ko v i n) (runL ko v i n) := by
  intro n
  induction n with
  | zero => intro N hN a k x M l ha hk hl hB; exact ⟨rfl, hB, by show l.length ≤ _; omega, fun _ _ _ => rfl⟩
  | succ n ih =>
    intro N hN a k x M l ha hk hl hB
    have h3 : 3 ^ (n + 1) = 3 ^ n + 3 ^ n + 3 ^ n := by rw [Nat.pow_succ]; omega
    have h1 : 1 ≤ 3 ^ n := Nat.le_trans Nat.one_le_two_pow (Nat.pow_le_pow_left (by omega) n)
    obtain ⟨b1, b2⟩ := hB.beg (by omega) (bodyOf a k)
    have hle : (l ++ [bodyOf a k]).length = l.length + 1 := by rw [List.length_append]; rfl
    obtain ⟨q1, q2, q3, q4⟩ := with_sim (v := v) (i := i) (ih (N + 3 ^ n + 1) (by omega)) hko (bodyOf a k) x _ _ (by omega) b1 (body_in ha hk)
    exact ⟨q1, q2, Nat.le_trans q3 (by omega), fun q e1 e2 => (q4 q e1 e2).trans (b2 q e1 e2)⟩
set_option maxRecDepth 20000 in
theorem runL_len {v i x : Int32} {a k : Nat} (ha : a ≤ 2) (hk : k ≤ 6) : (runL k v i 12 a k x []).2.length ≤ 20 := by
  rcases (show a = 0 ∨ a = 1 ∨ a = 2 by omega) with rfl | rfl | rfl <;> rcases (show k = 0 ∨ k = 1 ∨ k = 2 ∨ k = 3 ∨ k = 4 ∨ k = 5 ∨ k = 6 by omega) with rfl | rfl | rfl | rfl | rfl | rfl | rfl <;> exact Nat.le_of_ble_eq_true rfl
theorem BlR.c {l : List Int32} {M : Mem} (h : BlR l M) (hl : l.length ≤ 20) : BlC l M := ⟨h.1, fun i hi => h.2 i hi (by omega)⟩
theorem prep_blr {M : Mem} {k : Nat} {v i : Int32} (h : M 68 1 = nI 0) : BlR [] (prepM M (nI k) v i) ∧ ∀ q, q ≠ 68 → q ≠ 69 → prepM M (nI k) v i q = M q := by
  obtain ⟨⟨n, hn, e⟩, -⟩ := prepM_ok (k := k) (v := v) (i := i) h
  have hn : n = 0 := by omega
  subst hn
  refine ⟨⟨e, fun j hj => absurd hj (Nat.not_lt_zero _)⟩, fun q h1 h2 => ?_⟩
  unfold prepM
  rw [mU_ne h1, mU_ne h1, mU_ne h1]
set_option maxRecDepth 10000 in
set_option maxHeartbeats 4000000 in
theorem k_act : ∀ (d : Nat) (p a x : Int32) {σ : SG} {h : hp_T} {M : Mem} {B0 : Nat} (R : CRep σ h M) (O : OK B0 σ), Ex (d + 30) nX7_act [.ref 23, .int p, .int a, .int x] (wi h M) 0 0 (QC (f_act σ p a x) h M) := by
  intro d p a x σ h M B0 R O
  have C := R.C
  refine Ex.of mm_X7_act (Nat.le_of_ble_eq_true rfl) fun w κ X hk hnm => ?_
  refine r_aload_n (pc := 0) X dX7_act_0 rfl ?_
  refine r_getr (pc := 1) X dX7_act_1 tf_7_42 rfl (kc_23 C) (rc_23_7 C) ?_
  refine r_c0_0VW (pc := 4) X rfl dX7_act_4 tc_7_238 mm_X0_forget (kc_68 C) rfl rfl (e_forget (d + 29) C) (Nat.le_of_ble_eq_true rfl) (fun M4 q4 => ?_)
  subst q4
  obtain ⟨R1, F1⟩ := R.setB (l := []) (M1 := mU M 68 (upd (M 68) 1 (nI 0))) (fun q h1 h2 => mU_ne h1) ⟨by rw [mU_eq]; rfl, fun j hj => absurd hj (Nat.not_lt_zero _)⟩
  refine r_aload_n (pc := 7) X dX7_act_7 rfl ?_
  refine r_getr (pc := 8) X dX7_act_8 tf_7_25 rfl (kc_23 C) (rc_23_3 C) ?_
  refine r_iload_n (pc := 11) X dX7_act_11 rfl ?_
  refine r_c0_1P (pc := 12) X rfl dX7_act_12 tc_7_68 mm_X5_has (kc_25 C) rfl rfl (u_has (d + 29) p R1) (Nat.le_of_ble_eq_true rfl) ?_
  refine r_if_eqB (pc := 15) X dX7_act_15 (tgt := 27) (by decide) (fun c15 => ?_) (fun c15 => ?_)
  · refine r_iconst (pc := 27) (v := (nI 0)) X dX7_act_27 (by decide) ?_
    refine r_iret (pc := 28) X dX7_act_28 rfl rfl ?_
    refine ⟨QC.mk ?_ R1 F1, rfl⟩
    simp (decide := true) [f_act, c15]
  · refine r_iload_n (pc := 18) X dX7_act_18 rfl ?_
    refine r_iconst (pc := 19) (v := (nI 0)) X dX7_act_19 (by decide) ?_
    refine r_iconst (pc := 20) (v := (nI 2)) X dX7_act_20 (by decide) ?_
    refine r_c1_3P (pc := 21) X rfl dX7_act_21 tc_7_53 mm_X7_isWithin (e_in (d + 29) a (nI 0) (nI 2)) (Nat.le_of_ble_eq_true rfl) ?_
    refine r_if_neB (pc := 24) X dX7_act_24 (tgt := 29) (by decide) (fun c24 => ?_) (fun c24 => ?_)
    · obtain ⟨u, hu, hu6, rfl⟩ := has_nat O.w c15
      have cu := nI_clamp (show u < 2 ^ 31 by omega)
      obtain ⟨t, -, ht, rfl⟩ := inF_lo c24 (by omega) (by omega)
      have ct := nI_clamp (show t < 2 ^ 31 by omega)
      obtain ⟨⟨kn, hkn, ekn⟩, -⟩ := O.w.2.2.2.2.2.2.1 u hu6
      have ek : mU M 68 (upd (M 68) 1 (nI 0)) 26 u = nI kn := by rw [mU_ne (by omega)]; exact (R.a1 u).trans ekn
      have ck9 : (sV σ 1 u).toNatClampNeg = kn := by rw [ekn]; exact nI_clamp (by omega)
      refine r_aload_n (pc := 29) X dX7_act_29 rfl ?_
      refine r_getr (pc := 30) X dX7_act_30 tf_7_42 rfl (kc_23 C) (rc_23_7 C) ?_
      refine r_aload_n (pc := 33) X dX7_act_33 rfl ?_
      refine r_getr (pc := 34) X dX7_act_34 tf_7_25 rfl (kc_23 C) (rc_23_3 C) ?_
      refine r_iload_n (pc := 37) X dX7_act_37 rfl ?_
      refine r_iload_n (pc := 38) X dX7_act_38 rfl ?_
      refine r_iload_n (pc := 39) X dX7_act_39 rfl ?_
      refine r_c0_4IW (pc := 40) X rfl dX7_act_40 tc_7_241 mm_X0_perform (kc_68 C) rfl rfl (e_perform (d + 1) u t kn x C hu6 hkn ht ek (by rw [mU_eq]; rfl)) (Nat.le_of_ble_eq_true rfl) (fun r40 M40 q40 => ?_)
      refine r_iret (pc := 43) X dX7_act_43 rfl rfl ?_
      obtain ⟨rfl, rfl⟩ := q40
      have p9 := prep_blr (M := mU M 68 (upd (M 68) 1 (nI 0))) (k := kn) (v := mU M 68 (upd (M 68) 1 (nI 0)) 27 u) (i := nI u) (by rw [mU_eq]; rfl)
      obtain ⟨s1, s2, s3, s4⟩ := run_sim (ko := kn) (v := mU M 68 (upd (M 68) 1 (nI 0)) 27 u) (i := nI u) hkn 12 0 (by decide) t kn x _ [] ht hkn (by decide) p9.1
      have ev : mU M 68 (upd (M 68) 1 (nI 0)) 27 u = sV σ 2 u := by rw [mU_ne (by omega)]; exact R.a2 u
      obtain ⟨R2, F2⟩ := R1.setB (fun q h1 h2 => (s4 q h1 h2).trans (p9.2 q h1 h2)) (s2.c (runL_len ht hkn))
      refine ⟨QC.mk ?_ R2 (F1.tr F2), rfl⟩
      rw [s1, ev]
      simp (decide := true) [f_act, cu, ct, ck9, c15, c24]
    · refine r_iconst (pc := 27) (v := (nI 0)) X dX7_act_27 (by decide) ?_
      refine r_iret (pc := 28) X dX7_act_28 rfl rfl ?_
      refine ⟨QC.mk ?_ R1 F1, rfl⟩
      simp (decide := true) [f_act, c15, c24]
set_option maxRecDepth 10000 in
set_option maxHeartbeats 4000000 in
theorem k_trace : ∀ (d : Nat) (x : Int32) {σ : SG} {h : hp_T} {M : Mem} {B0 : Nat} (R : CRep σ h M) (O : OK B0 σ), Ex (d + 30) nX7_trace [.ref 23, .int x] (wi h M) 0 0 (QC (f_trace σ x) h M) := by
  intro d x σ h M B0 R O
  have C := R.C
  refine Ex.of mm_X7_trace (Nat.le_of_ble_eq_true rfl) fun w κ X hk hnm => ?_
  refine r_aload_n (pc := 0) X dX7_trace_0 rfl ?_
  refine r_getr (pc := 1) X dX7_trace_1 tf_7_42 rfl (kc_23 C) (rc_23_7 C) ?_
  refine r_iload_n (pc := 4) X dX7_trace_4 rfl ?_
  refine r_c0_1P (pc := 5) X rfl dX7_trace_5 tc_7_245 mm_X0_kept (kc_68 C) rfl rfl (e_kept (d + 29) x C) (Nat.le_of_ble_eq_true rfl) ?_
  refine r_iret (pc := 8) X dX7_trace_8 rfl rfl ?_
  refine ⟨QC.mk (σ1 := σ) ?_ R FR.rf, rfl⟩
  unfold f_trace keptF
  rw [R.bl.1]
  by_cases c1 : x < 0
  · rw [if_pos c1, if_pos c1]
  · rw [if_neg c1, if_neg c1]
    by_cases c2 : nI (sBl σ).length ≤ x
    · rw [if_pos c2, if_pos c2]
    · rw [if_neg c2, if_neg c2]
      by_cases c3 : nI 20 ≤ x
      · rw [if_pos c3, if_pos c3]
      · rw [if_neg c3, if_neg c3]
        obtain ⟨j, hj, ej⟩ := nI_of c1
        subst ej
        rw [nI_clamp hj, R.bl.2 j (Nat.not_le.mp fun z => c2 (nI_le z hj))]
set_option maxRecDepth 10000 in
set_option maxHeartbeats 4000000 in
theorem k_taken : ∀ (d : Nat) (p k : Int32) {σ : SG} {h : hp_T} {M : Mem} {B0 : Nat} (R : CRep σ h M) (O : OK B0 σ), Ex (d + 8) nX7_taken [.ref 23, .int p, .int k] (wi h M) 0 0 (QC (f_taken σ p k) h M) := by
  intro d p k σ h M B0 R O
  have C := R.C
  refine Ex.of mm_X7_taken (Nat.le_of_ble_eq_true rfl) fun w κ X hk hnm => ?_
  refine r_iload_n (pc := 0) X dX7_taken_0 rfl ?_
  refine r_iconst (pc := 1) (v := (nI 0)) X dX7_taken_1 (by decide) ?_
  refine r_bipush (pc := 2) (v := (nI 6)) X dX7_taken_2 (by decide) ?_
  refine r_c1_3P (pc := 4) X rfl dX7_taken_4 tc_7_53 mm_X7_isWithin (e_in (d + 7) k (nI 0) (nI 6)) (Nat.le_of_ble_eq_true rfl) ?_
  refine r_if_neB (pc := 7) X dX7_taken_7 (tgt := 13) (by decide) (fun c7 => ?_) (fun c7 => ?_)
  · refine r_aload_n (pc := 13) X dX7_taken_13 rfl ?_
    refine r_getr (pc := 14) X dX7_taken_14 tf_7_25 rfl (kc_23 C) (rc_23_3 C) ?_
    refine r_iload_n (pc := 17) X dX7_taken_17 rfl ?_
    refine r_c0_1P (pc := 18) X rfl dX7_taken_18 tc_7_68 mm_X5_has (kc_25 C) rfl rfl (u_has (d + 7) p R) (Nat.le_of_ble_eq_true rfl) ?_
    refine r_if_neB (pc := 21) X dX7_taken_21 (tgt := 27) (by decide) (fun c21 => ?_) (fun c21 => ?_)
    · obtain ⟨u, hu, hu6, rfl⟩ := has_nat O.w c21
      have cu := nI_clamp (show u < 2 ^ 31 by omega)
      refine r_aload_n (pc := 27) X dX7_taken_27 rfl ?_
      refine r_getr (pc := 28) X dX7_taken_28 tf_7_25 rfl (kc_23 C) (rc_23_3 C) ?_
      refine r_getr (pc := 31) X dX7_taken_31 tf_7_71 rfl (kc_25 C) (rc_25_0 C) ?_
      refine r_iload_n (pc := 34) X dX7_taken_34 rfl ?_
      refine r_ialdW (pc := 35) X dX7_taken_35 (kc_26 C) rfl hu6 (by omega) (R.a1 u) ?_
      refine r_istore_n (pc := 36) X dX7_taken_36 (Nat.le_of_ble_eq_true rfl) ?_
      refine r_iload_n (pc := 37) X dX7_taken_37 rfl ?_
      refine r_iload_n (pc := 38) X dX7_taken_38 rfl ?_
      refine r_c1_2P (pc := 39) X rfl dX7_taken_39 tc_7_247 mm_X7_isOrIsUnder (e_under (d + 7) (sV σ 1 u) k) (Nat.le_of_ble_eq_true rfl) ?_
      refine r_if_eqB (pc := 42) X dX7_taken_42 (tgt := 49) (by decide) (fun c42 => ?_) (fun c42 => ?_)
      · refine r_bipush (pc := 49) (v := (-12)) X dX7_taken_49 (by decide) ?_
        refine r_iret (pc := 51) X dX7_taken_51 rfl rfl ?_
        refine ⟨QC.mk (σ1 := σ) ?_ R FR.rf, rfl⟩
        simp (decide := true) [f_taken, cu, c7, c21, c42]
      · refine r_iload_n (pc := 45) X dX7_taken_45 rfl ?_
        refine r_goto (pc := 46) X dX7_taken_46 (tgt := 51) (by decide) ?_
        refine r_iret (pc := 51) X dX7_taken_51 rfl rfl ?_
        refine ⟨QC.mk (σ1 := σ) ?_ R FR.rf, rfl⟩
        simp (decide := true) [f_taken, cu, c7, c21, c42]
    · refine r_bipush (pc := 24) (v := (-11)) X dX7_taken_24 (by decide) ?_
      refine r_iret (pc := 26) X dX7_taken_26 rfl rfl ?_
      refine ⟨QC.mk (σ1 := σ) ?_ R FR.rf, rfl⟩
      simp (decide := true) [f_taken, c7, c21]
  · refine r_bipush (pc := 10) (v := (-2)) X dX7_taken_10 (by decide) ?_
    refine r_iret (pc := 12) X dX7_taken_12 rfl rfl ?_
    refine ⟨QC.mk (σ1 := σ) ?_ R FR.rf, rfl⟩
    simp (decide := true) [f_taken, c7]
set_option maxRecDepth 10000 in
set_option maxHeartbeats 4000000 in
theorem k_count : ∀ (d : Nat) (x : Int32) {σ : SG} {h : hp_T} {M : Mem} {B0 : Nat} (R : CRep σ h M) (O : OK B0 σ), Ex (d + 8) nX7_count [.ref 23, .int x] (wi h M) 0 0 (QC (f_count σ x) h M) := by
  intro d x σ h M B0 R O
  have C := R.C
  refine Ex.of mm_X7_count (Nat.le_of_ble_eq_true rfl) fun w κ X hk hnm => ?_
  refine r_iload_n (pc := 0) X dX7_count_0 rfl ?_
  refine sw_X7_count_1 X (fun z1 => ?_) (fun z1 => ?_) (fun z1 => ?_) (fun z1 => ?_) (fun z1 => ?_) (fun z1 => ?_) (fun z1 => ?_) (fun z1 => ?_)
  · refine r_aload_n (pc := 44) X dX7_count_44 rfl ?_
    refine r_getr (pc := 45) X dX7_count_45 tf_7_25 rfl (kc_23 C) (rc_23_3 C) ?_
    refine r_getiW (pc := 48) X dX7_count_48 tf_7_160 rfl (kc_25 C) (R.a0 6) ?_
    refine r_iret (pc := 51) X dX7_count_51 rfl rfl ?_
    refine ⟨QC.mk (σ1 := σ) ?_ R FR.rf, rfl⟩
    simp (decide := true) [f_count, z1]
  · refine r_aload_n (pc := 52) X dX7_count_52 rfl ?_
    refine r_getiW (pc := 53) X dX7_count_53 tf_7_114 rfl (kc_23 C) R.ev.1 ?_
    refine r_iret (pc := 56) X dX7_count_56 rfl rfl ?_
    refine ⟨QC.mk (σ1 := σ) ?_ R FR.rf, rfl⟩
    simp (decide := true) [f_count, z1]
  · refine r_aload_n (pc := 57) X dX7_count_57 rfl ?_
    refine r_getr (pc := 58) X dX7_count_58 tf_7_12 rfl (kc_23 C) (rc_23_0 C) ?_
    refine r_getr (pc := 61) X dX7_count_61 tf_7_173 rfl (kc_24 C) (rc_24_1 C) ?_
    refine r_getiW (pc := 64) X dX7_count_64 tf_7_201 rfl (kc_32 C) R.se.1 ?_
    refine r_iret (pc := 67) X dX7_count_67 rfl rfl ?_
    refine ⟨QC.mk (σ1 := σ) ?_ R FR.rf, rfl⟩
    simp (decide := true) [f_count, z1]
  · refine r_aload_n (pc := 68) X dX7_count_68 rfl ?_
    refine r_getr (pc := 69) X dX7_count_69 tf_7_12 rfl (kc_23 C) (rc_23_0 C) ?_
    refine r_getr (pc := 72) X dX7_count_72 tf_7_198 rfl (kc_24 C) (rc_24_2 C) ?_
    refine r_getiW (pc := 75) X dX7_count_75 tf_7_201 rfl (kc_35 C) R.ga.1 ?_
    refine r_iret (pc := 78) X dX7_count_78 rfl rfl ?_
    refine ⟨QC.mk (σ1 := σ) ?_ R FR.rf, rfl⟩
    simp (decide := true) [f_count, z1]
  · refine r_aload_n (pc := 79) X dX7_count_79 rfl ?_
    refine r_getr (pc := 80) X dX7_count_80 tf_7_12 rfl (kc_23 C) (rc_23_0 C) ?_
    refine r_getr (pc := 83) X dX7_count_83 tf_7_214 rfl (kc_24 C) (rc_24_3 C) ?_
    refine r_getiW (pc := 86) X dX7_count_86 tf_7_201 rfl (kc_38 C) R.bo.1 ?_
    refine r_iret (pc := 89) X dX7_count_89 rfl rfl ?_
    refine ⟨QC.mk (σ1 := σ) ?_ R FR.rf, rfl⟩
    simp (decide := true) [f_count, z1]
  · refine r_aload_n (pc := 90) X dX7_count_90 rfl ?_
    refine r_getr (pc := 91) X dX7_count_91 tf_7_35 rfl (kc_23 C) (rc_23_5 C) ?_
    refine r_getiW (pc := 94) X dX7_count_94 tf_7_250 rfl (kc_65 C) R.tx.1 ?_
    refine r_iret (pc := 97) X dX7_count_97 rfl rfl ?_
    refine ⟨QC.mk (σ1 := σ) ?_ R FR.rf, rfl⟩
    simp (decide := true) [f_count, z1]
  · refine r_aload_n (pc := 98) X dX7_count_98 rfl ?_
    refine r_getr (pc := 99) X dX7_count_99 tf_7_42 rfl (kc_23 C) (rc_23_7 C) ?_
    refine r_getiW (pc := 102) X dX7_count_102 tf_7_253 rfl (kc_68 C) R.bl.1 ?_
    refine r_iret (pc := 105) X dX7_count_105 rfl rfl ?_
    refine ⟨QC.mk (σ1 := σ) ?_ R FR.rf, rfl⟩
    simp (decide := true) [f_count, z1]
  · refine r_bipush (pc := 106) (v := (-2)) X dX7_count_106 (by decide) ?_
    refine r_iret (pc := 108) X dX7_count_108 rfl rfl ?_
    refine ⟨QC.mk (σ1 := σ) ?_ R FR.rf, rfl⟩
    simp (decide := true) [f_count, z1]
section RW31
variable {w : wc_T} {κ : cx_T} {d own nL : Nat} {cc : ByteArray} {rt : Option FieldType} {Φ : Option Value → hp_T → Prop} {pc : Nat} {L : List (Option Value)} {st : List Value} {h : hp_T}
theorem GG.ans (X : CX w κ d own cc nL rt Φ) {v : Option Value} {x : Int32} {g : hp_T} (e : v = some (.int x)) (kk : GG w κ pc L (.int x :: st) g) : GG w κ pc L (v.toList ++ st) g := by
  rw [e]
  exact kk
end RW31
set_option maxRecDepth 10000 in
set_option maxHeartbeats 4000000 in
theorem k_tape : ∀ (d : Nat) (t s n : Int32) {σ : SG} {h : hp_T} {M : Mem} {B0 : Nat} (R : CRep σ h M) (O : OK B0 σ), Ex (d + 8) nX7_tape [.ref 23, .int t, .int s, .int n] (wi h M) 0 0 (QC (f_tape σ t s n) h M) := by
  intro d t s n σ h M B0 R O
  have C := R.C
  have hw9 : WT (Tc M (h_l h)) := by rw [R.tp]; exact O.2.2.2.2.2
  refine Ex.of mm_X7_tape (Nat.le_of_ble_eq_true rfl) fun w κ X hk hnm => ?_
  refine r_aload_n (pc := 0) X dX7_tape_0 rfl ?_
  refine r_getr (pc := 1) X dX7_tape_1 tf_7_49 rfl (kc_23 C) (rc_23_8 C) ?_
  refine r_iload_n (pc := 4) X dX7_tape_4 rfl ?_
  refine r_iload_n (pc := 5) X dX7_tape_5 rfl ?_
  refine r_iload_n (pc := 6) X dX7_tape_6 rfl ?_
  refine r_c0_3G (pc := 7) X rfl dX7_tape_7 tc_7_256 mm_X6_make (kc_70 C) rfl rfl (e_t_make (d + 5) t s n (h := h) (Lo := h_l h) (M := M) C) (Nat.le_of_ble_eq_true rfl) (fun v7 g7 q7 => ?_)
  obtain ⟨r9, M9, L9, rfl, rfl, rfl, p9⟩ := q7
  rw [R.tp] at p9 ⊢
  obtain ⟨R9, F9⟩ := R.setT p9
  refine GG.ans X rfl ?_
  refine r_iret (pc := 10) X dX7_tape_10 rfl rfl ?_
  exact ⟨QC.mk rfl R9 F9, rfl⟩
set_option maxRecDepth 10000 in
set_option maxHeartbeats 4000000 in
theorem k_shift : ∀ (d : Nat) (t i o j n : Int32) {σ : SG} {h : hp_T} {M : Mem} {B0 : Nat} (R : CRep σ h M) (O : OK B0 σ), Ex (d + 8) nX7_shift [.ref 23, .int t, .int i, .int o, .int j, .int n] (wi h M) 0 0 (QC (f_shift σ t i o j n) h M) := by
  intro d t i o j n σ h M B0 R O
  have C := R.C
  have hw9 : WT (Tc M (h_l h)) := by rw [R.tp]; exact O.2.2.2.2.2
  refine Ex.of mm_X7_shift (Nat.le_of_ble_eq_true rfl) fun w κ X hk hnm => ?_
  refine r_aload_n (pc := 0) X dX7_shift_0 rfl ?_
  refine r_getr (pc := 1) X dX7_shift_1 tf_7_49 rfl (kc_23 C) (rc_23_8 C) ?_
  refine r_iload_n (pc := 4) X dX7_shift_4 rfl ?_
  refine r_iload_n (pc := 5) X dX7_shift_5 rfl ?_
  refine r_iload_n (pc := 6) X dX7_shift_6 rfl ?_
  refine r_iload (pc := 7) X dX7_shift_7 rfl ?_
  refine r_iload (pc := 9) X dX7_shift_9 rfl ?_
  refine r_c0_5G (pc := 11) X rfl dX7_shift_11 tc_7_264 mm_X6_bring (kc_70 C) rfl rfl (e_t_bring (d + 5) t i o j n (h := h) (Lo := h_l h) (M := M) C hw9) (Nat.le_of_ble_eq_true rfl) (fun v11 g11 q11 => ?_)
  obtain ⟨r9, M9, L9, rfl, rfl, rfl, p9⟩ := q11
  rw [R.tp] at p9 ⊢
  obtain ⟨R9, F9⟩ := R.setT p9
  refine GG.ans X rfl ?_
  refine r_iret (pc := 14) X dX7_shift_14 rfl rfl ?_
  exact ⟨QC.mk rfl R9 F9, rfl⟩
set_option maxRecDepth 10000 in
set_option maxHeartbeats 4000000 in
theorem k_item : ∀ (d : Nat) (t i : Int32) (v : Int64) {σ : SG} {h : hp_T} {M : Mem} {B0 : Nat} (R : CRep σ h M) (O : OK B0 σ), Ex (d + 8) nX7_item [.ref 23, .int t, .int i, .long v] (wi h M) 0 0 (QC (f_item σ t i v) h M) := by
  intro d t i v σ h M B0 R O
  have C := R.C
  have hw9 : WT (Tc M (h_l h)) := by rw [R.tp]; exact O.2.2.2.2.2
  refine Ex.of mm_X7_item (Nat.le_of_ble_eq_true rfl) fun w κ X hk hnm => ?_
  refine r_aload_n (pc := 0) X dX7_item_0 rfl ?_
  refine r_getr (pc := 1) X dX7_item_1 tf_7_49 rfl (kc_23 C) (rc_23_8 C) ?_
  refine r_iload_n (pc := 4) X dX7_item_4 rfl ?_
  refine r_iload_n (pc := 5) X dX7_item_5 rfl ?_
  refine r_lload_n (pc := 6) X dX7_item_6 rfl ?_
  refine r_c0_3G (pc := 7) X rfl dX7_item_7 tc_7_260 mm_X6_put (kc_70 C) rfl rfl (e_t_put (d + 5) t i v (h := h) (Lo := h_l h) (M := M) C hw9) (Nat.le_of_ble_eq_true rfl) (fun v7 g7 q7 => ?_)
  obtain ⟨r9, M9, L9, rfl, rfl, rfl, p9⟩ := q7
  rw [R.tp] at p9 ⊢
  obtain ⟨R9, F9⟩ := R.setT p9
  refine GG.ans X rfl ?_
  refine r_iret (pc := 10) X dX7_item_10 rfl rfl ?_
  exact ⟨QC.mk rfl R9 F9, rfl⟩
theorem PrS.v {M M1 : Mem} {b c : Nat} {l : PL} (p : PrS M b c M1) (a : PrV M c l) : PrV M1 b l := ⟨p.2.2.trans a.1, fun i hi => by rw [p.1, p.2.1]; exact a.2 i hi⟩
theorem PrS.g {M M1 : Mem} {b c : Nat} {l : PL} (p : PrS M b c M1) (a : GmV M c l) : GmV M1 b l := ⟨p.2.2.trans a.1, fun i hi => by rw [p.1, p.2.1]; exact a.2 i hi⟩
theorem PrS.z {M M1 : Mem} {b c n : Nat} (p : PrS M b c M1) (a : ZP M c n) : ZP M1 b n := fun i hi => by rw [p.1, p.2.1]; exact a i hi
theorem sev_r {g : hp_T} {t q k : Nat} {r : Option Nat} (h : q ≠ t) : h_r (sev g t r) q k = h_r g q k := by
  show (if q = t then va_up (h_r g t) 11 r else h_r g q) k = _
  rw [if_neg h]
theorem sev_11 {g : hp_T} {t : Nat} {r : Option Nat} : h_r (sev g t r) t 11 = r := by
  show (if t = t then va_up (h_r g t) 11 r else h_r g t) 11 = _
  rw [if_pos rfl]
  exact if_pos rfl
theorem CRep.image {σ : SG} {h : hp_T} {M M1 : Mem} (R : CRep σ h M) (v : Sv M1 42 = Sv M 25) (p1 : PrS M 49 32 M1) (p2 : PrS M 52 35 M1) (p3 : PrS M 55 38 M1) (k : ∀ b, ¬ (42 ≤ b ∧ b ≤ 48) → ¬ (49 ≤ b ∧ b ≤ 57) → M1 b = M b) :
    CRep (σ.1, some σ.1, σ.2.2) (sev h 42 (evId (sE σ))) (mU M1 23 (upd (M1 23) 2 (nI 1))) ∧ FR h M (sev h 42 (evId (sE σ))) (mU M1 23 (upd (M1 23) 2 (nI 1))) := by
  have k2 : ∀ b, (b < 42 ∨ 57 < b) → b ≠ 23 → mU M1 23 (upd (M1 23) 2 (nI 1)) b = M b := fun b h1 h2 => by rw [mU_ne h2]; exact k b (by omega) (by omega)
  have k3 : ∀ b, b ≠ 23 → mU M1 23 (upd (M1 23) 2 (nI 1)) b = M1 b := fun b h2 => mU_ne h2
  have s1 := R.kS (g := sev h 42 (evId (sE σ))) (M1 := mU M1 23 (upd (M1 23) 2 (nI 1))) (sev_r (by omega)) (fun q h1 h2 => k2 q (by omega) (by omega)) (fun q h1 h2 => k2 q (by omega) (by omega))
  have sc : SceneC σ.1 (sev h 42 (evId (sE σ))) M1 42 49 52 55 := ⟨v.trans R.v, sev_11, p1.v R.se, p2.g R.ga, p3.v R.bo⟩
  have hy : HyC M1 42 49 52 55 := ⟨by rw [v]; exact R.hy.1, p1.z R.hy.2.1, p2.z R.hy.2.2.1, p3.z R.hy.2.2.2⟩
  refine ⟨⟨R.C.sev (Or.inr (Or.inl rfl)) _, s1.1, s1.2, ⟨fun e => (by cases e), fun s e => ?_⟩, hy.kept (fun q h1 h2 => k3 q (by omega)) (fun q h1 h2 => k3 q (by omega)) (by omega) (by omega), R.kZ (fun q h1 h2 => k2 q (by omega) (by omega)), ?_, R.kX (by rw [k2 65 (by omega) (by omega)]) (k2 66 (by omega) (by omega)), R.kB (by rw [k2 68 (by omega) (by omega)]) (k2 69 (by omega) (by omega)), R.kP (k2 71 (by omega) (by omega)) (k2 72 (by omega) (by omega))⟩, ⟨rfl, fun b h1 h2 => ⟨k2 b (by omega) (by omega), rfl⟩⟩⟩
  · cases e
    exact ⟨by rw [mU_eq]; rfl, sc.kept (fun q h1 h2 => k3 q (by omega)) (fun q h1 h2 => k3 q (by omega)) (by omega) (by omega) rfl⟩
  · refine ⟨?_, R.ev.2.1, fun j hj => (R.ev.2.2 j hj).kept (k2 _ (by omega) (by omega)) (k2 _ (by omega) (by omega)) rfl (Nat.le_refl _) (sev_r (by omega))⟩
    rw [mU_eq]
    show M1 23 6 = _
    rw [k 23 (by omega) (by omega)]
    exact R.ev.1
theorem CRep.undo {σ : SG} {h : hp_T} {M M1 : Mem} {s : SCN} (R : CRep σ h M) (e : sIm σ = some s) (v : Sv M1 25 = Sv M 42) (p1 : PrS M 32 49 M1) (p2 : PrS M 35 52 M1) (p3 : PrS M 38 55 M1) (k : ∀ b, ¬ (25 ≤ b ∧ b ≤ 31) → ¬ (32 ≤ b ∧ b ≤ 40) → M1 b = M b) :
    CRep (s, σ.2) (sev h 25 (evId s.2.1)) M1 ∧ FR h M (sev h 25 (evId s.2.1)) M1 := by
  have k2 : ∀ b, (b < 25 ∨ 40 < b) → M1 b = M b := fun b h1 => k b (by omega) (by omega)
  obtain ⟨h1, i1, i2, i3, i4, i5⟩ := R.im.2 s e
  have j1 := R.kI (g := sev h 25 (evId s.2.1)) (M1 := M1) (sev_r (by omega)) (by rw [k2 23 (by omega)]) (fun q h1 h2 => k2 q (by omega)) (fun q h1 h2 => k2 q (by omega))
  refine ⟨⟨R.C.sev (Or.inl rfl) _, ⟨v.trans i1, sev_11, p1.v i3, p2.g i4, p3.v i5⟩, ⟨by rw [v]; exact R.hk.1, p1.z R.hk.2.1, p2.z R.hk.2.2.1, p3.z R.hk.2.2.2⟩, j1.1, j1.2, R.kZ (fun q h1 h2 => k2 q (by omega)), ?_, R.kX (by rw [k2 65 (by omega)]) (k2 66 (by omega)), R.kB (by rw [k2 68 (by omega)]) (k2 69 (by omega)), R.kP (k2 71 (by omega)) (k2 72 (by omega))⟩, ⟨rfl, fun b h1 h2 => ⟨k2 b (by omega), rfl⟩⟩⟩
  exact ⟨by rw [k2 23 (by omega)]; exact R.ev.1, R.ev.2.1, fun j hj => (R.ev.2.2 j hj).kept (k2 _ (by omega)) (k2 _ (by omega)) rfl (Nat.le_refl _) (sev_r (by omega))⟩
set_option maxRecDepth 10000 in
set_option maxHeartbeats 4000000 in
theorem k_image : ∀ (d : Nat) {σ : SG} {h : hp_T} {M : Mem} {B0 : Nat} (R : CRep σ h M) (O : OK B0 σ), Ex (d + 8) nX7_image [.ref 23] (wi h M) 0 0 (QC (f_image σ) h M) := by
  intro d σ h M B0 R O
  have C := R.C
  refine Ex.of mm_X7_image (Nat.le_of_ble_eq_true rfl) fun w κ X hk hnm => ?_
  refine r_aload_n (pc := 0) X dX7_image_0 rfl ?_
  refine r_getr (pc := 1) X dX7_image_1 tf_7_18 rfl (kc_23 C) (rc_23_1 C) ?_
  refine r_aload_n (pc := 4) X dX7_image_4 rfl ?_
  refine r_getr (pc := 5) X dX7_image_5 tf_7_12 rfl (kc_23 C) (rc_23_0 C) ?_
  refine r_c0_1G (pc := 8) X rfl dX7_image_8 tc_7_231 mm_X4_become (kc_41 C) rfl rfl (e_sc_image (d + 5) C R.e11 (ev20 rfl) R.hk.1 R.hy.1 R.hk.2.1 R.hy.2.1 R.hk.2.2.1 R.hy.2.2.1 R.hk.2.2.2 R.hy.2.2.2) (Nat.le_of_ble_eq_true rfl) (fun v8 g8 q8 => ?_)
  obtain ⟨M8, rfl, rfl, v8, p1, p2, p3, k8⟩ := q8
  have C := C.sev (Or.inr (Or.inl rfl)) (evId (sE σ))
  refine r_aload_n (pc := 11) X dX7_image_11 rfl ?_
  refine r_iconst (pc := 12) (v := (nI 1)) X dX7_image_12 (by decide) ?_
  refine r_putiW (pc := 13) X dX7_image_13 tf_7_234 rfl (Or.inl rfl) (kc_23 C) ⟨rfl, rfl⟩ ?_
  obtain ⟨R9, F9⟩ := R.image v8 p1 p2 p3 k8
  refine r_aload_n (pc := 16) X dX7_image_16 rfl ?_
  refine r_getr (pc := 17) X dX7_image_17 tf_7_25 rfl (kc_23 C) (rc_23_3 C) ?_
  refine r_getiW (pc := 20) X dX7_image_20 tf_7_160 rfl (kc_25 C) (R9.a0 6) ?_
  refine r_iret (pc := 23) X dX7_image_23 rfl rfl ?_
  exact ⟨QC.mk rfl R9 F9, rfl⟩
set_option maxRecDepth 10000 in
set_option maxHeartbeats 4000000 in
theorem k_undo : ∀ (d : Nat) {σ : SG} {h : hp_T} {M : Mem} {B0 : Nat} (R : CRep σ h M) (O : OK B0 σ), Ex (d + 8) nX7_undo [.ref 23] (wi h M) 0 0 (QC (f_undo σ) h M) := by
  intro d σ h M B0 R O
  have C := R.C
  refine Ex.of mm_X7_undo (Nat.le_of_ble_eq_true rfl) fun w κ X hk hnm => ?_
  cases e : sIm σ with
  | none =>
    have hz := R.im.1 e
    refine r_aload_n (pc := 0) X dX7_undo_0 rfl ?_
    refine r_getiW (pc := 1) X dX7_undo_1 tf_7_234 rfl (kc_23 C) hz ?_
    refine r_if_ne (pc := 4) X dX7_undo_4 (tgt := 10) (by decide) (fun c4 => ?_) (fun c4 => ?_)
    · exact absurd rfl c4
    · refine r_bipush (pc := 7) (v := (-3)) X dX7_undo_7 (by decide) ?_
      refine r_iret (pc := 9) X dX7_undo_9 rfl rfl ?_
      exact ⟨QC.mk (σ1 := σ) (by rw [f_undo, e]) R FR.rf, rfl⟩
  | some s =>
    have hz := (R.im.2 s e).1
    have hs := (R.im.2 s e).2
    refine r_aload_n (pc := 0) X dX7_undo_0 rfl ?_
    refine r_getiW (pc := 1) X dX7_undo_1 tf_7_234 rfl (kc_23 C) hz ?_
    refine r_if_ne (pc := 4) X dX7_undo_4 (tgt := 10) (by decide) (fun c4 => ?_) (fun c4 => ?_)
    · refine r_aload_n (pc := 10) X dX7_undo_10 rfl ?_
      refine r_getr (pc := 11) X dX7_undo_11 tf_7_12 rfl (kc_23 C) (rc_23_0 C) ?_
      refine r_aload_n (pc := 14) X dX7_undo_14 rfl ?_
      refine r_getr (pc := 15) X dX7_undo_15 tf_7_18 rfl (kc_23 C) (rc_23_1 C) ?_
      refine r_c0_1G (pc := 18) X rfl dX7_undo_18 tc_7_231 mm_X4_become (kc_24 C) rfl rfl (e_sc_undo (d + 5) C hs.2.1 (ev20 rfl) R.hy.1 R.hk.1 R.hy.2.1 R.hk.2.1 R.hy.2.2.1 R.hk.2.2.1 R.hy.2.2.2 R.hk.2.2.2) (Nat.le_of_ble_eq_true rfl) (fun v18 g18 q18 => ?_)
      obtain ⟨M18, rfl, rfl, v8, p1, p2, p3, k8⟩ := q18
      have C := C.sev (Or.inl rfl) (evId s.2.1)
      obtain ⟨R9, F9⟩ := R.undo e v8 p1 p2 p3 k8
      refine r_aload_n (pc := 21) X dX7_undo_21 rfl ?_
      refine r_getr (pc := 22) X dX7_undo_22 tf_7_25 rfl (kc_23 C) (rc_23_3 C) ?_
      refine r_getiW (pc := 25) X dX7_undo_25 tf_7_160 rfl (kc_25 C) (R9.a0 6) ?_
      refine r_iret (pc := 28) X dX7_undo_28 rfl rfl ?_
      exact ⟨QC.mk (by rw [f_undo, e]) R9 F9, rfl⟩
    · exact absurd c4 (by decide)
