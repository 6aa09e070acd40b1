/-! the reference's expression, called -/
def PKx (s cc : Nat) (M M1 : Mem) : Prop := (∀ b, b ≠ 80 → b ≠ 91 → b ≠ 92 → b ≠ 93 → b ≠ 94 → M1 b = M b) ∧ (∀ j, j ≠ 14 → j ≠ 15 → j ≠ 24 → j ≠ 25 → j ≠ 26 → M1 80 j = M 80 j) ∧ (∀ i, i < s → M1 93 i = M 93 i) ∧ (∀ i, i ≠ cc → M1 92 i = M 92 i ∧ M1 91 i = M 91 i) ∧ M1 91 cc = nI s
def EQm (T : TX) (s cc : Nat) (M : Mem) (R : PR) (r : Int32) (M1 : Mem) : Prop := r = b2 R.1 ∧ MtS T R.2.1 M1 ∧ (R.1 = true → M1 80 24 = nI (s + R.2.2.length) ∧ M1 92 cc = nI (s + R.2.2.length) ∧ ∀ i, i < R.2.2.length → M1 93 (s + i) = trF (R.2.2.getD i 0)) ∧ PKx s cc M M1
def E0m (M : Mem) (s cc : Nat) : Mem := mU (mU (mU M 80 (upd (M 80) 25 (nI 0))) 80 (upd (mU M 80 (upd (M 80) 25 (nI 0)) 80) 26 (nI 0))) 91 (upd (mU (mU M 80 (upd (M 80) 25 (nI 0))) 80 (upd (mU M 80 (upd (M 80) 25 (nI 0)) 80) 26 (nI 0)) 91) cc (nI s))
theorem e0_b {M : Mem} {s cc b : Nat} (h1 : b ≠ 80) (h2 : b ≠ 91) : E0m M s cc b = M b := by unfold E0m; rw [mU_ne h2, mU_ne h1, mU_ne h1]
theorem e0_80 {M : Mem} {s cc j : Nat} (h1 : j ≠ 25) (h2 : j ≠ 26) : E0m M s cc 80 j = M 80 j := by unfold E0m; rw [mU_ne (by omega), mU_eq, pk_un h2, mU_eq, pk_un h1]
theorem e0_25 {M : Mem} {s cc : Nat} : E0m M s cc 80 25 = nI 0 := by unfold E0m; rw [mU_ne (by omega), mU_eq, pk_un (by omega), mU_eq, pk_us]
theorem e0_26 {M : Mem} {s cc : Nat} : E0m M s cc 80 26 = nI 0 := by unfold E0m; rw [mU_ne (by omega), mU_eq, pk_us]
theorem e0_91 {M : Mem} {s cc : Nat} : E0m M s cc 91 cc = nI s ∧ ∀ i, i ≠ cc → E0m M s cc 91 i = M 91 i := by
  unfold E0m
  rw [mU_eq]
  exact ⟨pk_us, fun i hi => by rw [pk_un hi, mU_ne (by omega), mU_ne (by omega)]⟩
theorem pk_x {M M1 : Mem} {s p cc : Nat} (k : PK (s, p, cc, E0m M s cc) M1) : PKx s cc M M1 := by
  have k1 : ∀ b, b ≠ 80 → b ≠ 92 → b ≠ 93 → b ≠ 94 → M1 b = E0m M s cc b := k.1
  have k2 : ∀ j, j ≠ 14 → j ≠ 15 → j ≠ 24 → j ≠ 25 → j ≠ 26 → M1 80 j = E0m M s cc 80 j := k.2.1
  have k3 : ∀ i, i < s → M1 93 i = E0m M s cc 93 i := k.2.2.1
  have k4 : ∀ i, i ≠ cc → M1 92 i = E0m M s cc 92 i := k.2.2.2
  have k9 := k1 91 (by omega) (by omega) (by omega) (by omega)
  refine ⟨fun b a1 a2 a3 a4 a5 => (k1 b a1 a3 a4 a5).trans (e0_b a1 a2), fun j a1 a2 a3 a4 a5 => (k2 j a1 a2 a3 a4 a5).trans (e0_80 a4 a5), fun i hi => (k3 i hi).trans (congrFun (e0_b (by omega) (by omega)) i), fun i hi => ⟨(k4 i hi).trans (congrFun (e0_b (by omega) (by omega)) i), ?_⟩, ?_⟩
  · rw [k9]; exact e0_91.2 i hi
  · rw [k9]; exact e0_91.1
theorem e0_st {T : TX} {p s cc : Nat} {M : Mem} (S : MtS T p M) (hs : M 80 24 = nI s) (hb : s ≤ 500 + p) : PSt T (s, p, cc, E0m M s cc) p [] [] (E0m M s cc) :=
  ⟨S.kept (e0_80 (by omega) (by omega)) (e0_80 (by omega) (by omega)) (e0_b (by omega) (by omega)), ⟨(e0_80 (by omega) (by omega)).trans hs, e0_25, e0_26⟩, ⟨Nat.le_of_eq (Nat.zero_add p), hb⟩, fun i hi => absurd hi (Nat.not_lt_zero i), trivial, ⟨fun _ _ _ _ _ => rfl, fun _ _ _ _ _ _ => rfl, fun _ _ => rfl, fun _ _ => rfl⟩⟩
set_option maxRecDepth 10000 in
set_option maxHeartbeats 4000000 in
theorem m_E : ∀ (d : Nat) {h : hp_T} {M : Mem} {T : TX} {p s cc : Nat} (C : CS h) (S : MtS T p M) (hs : M 80 24 = nI s) (hb : s ≤ 500 + p) (hcc : cc < 60) (hp : 1 ≤ p), Ei (d + 4) nX8_takesE [.ref 80, .int (nI cc)] (wi h M) (fun r M1 => EQm T s cc M (exprF T (factorF T 4) p []) r M1) := by
  intro d h M T p s cc C S hs hb hcc hp
  refine Ex.of mm_X8_takesE (Nat.le_of_ble_eq_true rfl) fun w κ X hk hnm => ?_
  refine r_aload_n (pc := 0) X dX8_takesE_0 rfl ?_
  refine r_iconst (pc := 1) (v := (nI 0)) X dX8_takesE_1 (by decide) ?_
  refine r_putiW (pc := 2) X dX8_takesE_2 tf_8_86 rfl (Or.inl rfl) (kc_80 C) ⟨rfl, rfl⟩ ?_
  refine r_aload_n (pc := 5) X dX8_takesE_5 rfl ?_
  refine r_iconst (pc := 6) (v := (nI 0)) X dX8_takesE_6 (by decide) ?_
  refine r_putiW (pc := 7) X dX8_takesE_7 tf_8_89 rfl (Or.inl rfl) (kc_80 C) ⟨rfl, rfl⟩ ?_
  refine r_aload_n (pc := 10) X dX8_takesE_10 rfl ?_
  refine r_getr (pc := 11) X dX8_takesE_11 tf_8_71 rfl (kc_80 C) (rc_80_20 C) ?_
  refine r_iload_n (pc := 14) X dX8_takesE_14 rfl ?_
  refine r_aload_n (pc := 15) X dX8_takesE_15 rfl ?_
  refine r_getiW (pc := 16) X dX8_takesE_16 tf_8_83 rfl (kc_80 C) hs ?_
  refine r_iastW (pc := 19) X dX8_takesE_19 (kc_91 C) rfl (show cc < 60 by omega) (by omega) ?_
  refine r_iconst (pc := 20) (v := (nI 1)) X dX8_takesE_20 (by decide) ?_
  refine r_istore_n (pc := 21) X dX8_takesE_21 (Nat.le_of_ble_eq_true rfl) ?_
  refine l_mE d (G := (s, p, cc, E0m M s cc)) C hcc X p [] (E0m M s cc) _ (e0_st S hs hb) hp (fun e M1 q w9 => ?_) (fun e M1 q k9 => ?_)
  · exact ⟨⟨nI 1, M1, rfl, rfl, by rw [e]; rfl, q.m, fun _ => ⟨q.ss, w9, q.2.2.2.1⟩, pk_x q.k⟩, rfl⟩
  · exact ⟨⟨nI 0, M1, rfl, rfl, by rw [e]; rfl, q, fun z => absurd (e.symm.trans z) (by decide), pk_x k9⟩, rfl⟩
