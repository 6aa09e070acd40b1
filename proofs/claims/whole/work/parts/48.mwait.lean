/-! the reference's waiting signs -/
def emM (M : Mem) (s : Nat) (x : Int32) : Mem := mU (mU M 93 (upd (M 93) s x)) 80 (upd (mU M 93 (upd (M 93) s x) 80) 24 (nI s + nI 1))
theorem em_93 {M : Mem} {s : Nat} {x : Int32} : emM M s x 93 = upd (M 93) s x := by unfold emM; rw [mU_ne (by omega), mU_eq]
theorem em_b {M : Mem} {s : Nat} {x : Int32} {b : Nat} (h1 : b ≠ 80) (h2 : b ≠ 93) : emM M s x b = M b := by unfold emM; rw [mU_ne h1, mU_ne h2]
theorem em_80 {M : Mem} {s : Nat} {x : Int32} {j : Nat} (h1 : j ≠ 24) : emM M s x 80 j = M 80 j := by unfold emM; rw [mU_eq, pk_un h1, mU_ne (by omega)]
theorem em_24 {M : Mem} {s : Nat} {x : Int32} : emM M s x 80 24 = nI (s + 1) := by unfold emM; rw [mU_eq, pk_us]; exact nI_add _ _
def opn : List Nat → Nat
  | [] => 0
  | c :: r => if c = 33 ∨ c = 40 then opn r + 1 else opn r
def Wst : List Nat → Mem → Prop
  | [], _ => True
  | c :: r, M => (M 94 r.length = nI c ∧ c < 128) ∧ Wst r M
theorem Wst.kept {M M1 : Mem} : ∀ {W : List Nat}, Wst W M → (∀ i, i < W.length → M1 94 i = M 94 i) → Wst W M1 := by
  intro W
  induction W with
  | nil => intro _ _; trivial
  | cons c r ih =>
    intro a k
    exact ⟨⟨(k r.length (Nat.lt_succ_self _)).trans a.1.1, a.1.2⟩, ih a.2 (fun i hi => k i (Nat.lt_succ_of_lt hi))⟩
abbrev GP : Type := Nat × Nat × Nat × Mem
def PK (G : GP) (M : Mem) : Prop := (∀ b, b ≠ 80 → b ≠ 92 → b ≠ 93 → b ≠ 94 → M b = G.2.2.2 b) ∧ (∀ j, j ≠ 14 → j ≠ 15 → j ≠ 24 → j ≠ 25 → j ≠ 26 → M 80 j = G.2.2.2 80 j) ∧ (∀ i, i < G.1 → M 93 i = G.2.2.2 93 i) ∧ ∀ i, i ≠ G.2.2.1 → M 92 i = G.2.2.2 92 i
/-- where the reference stands in an expression: the place, what was told, what waits (the latest first) -/
def PSt (T : TX) (G : GP) (p : Nat) (cs W : List Nat) (M : Mem) : Prop := MtS T p M ∧ (M 80 24 = nI (G.1 + cs.length) ∧ M 80 25 = nI W.length ∧ M 80 26 = nI (opn W)) ∧ (cs.length + W.length + G.2.1 ≤ p ∧ G.1 ≤ 500 + G.2.1) ∧ (∀ i, i < cs.length → M 93 (G.1 + i) = trF (cs.getD i 0)) ∧ Wst W M ∧ PK G M
theorem gd_last {q : Nat} : ∀ cs : List Nat, (cs ++ [q]).getD cs.length 0 = q := by
  intro cs
  simp [List.getD]
theorem gd_low {q i : Nat} {cs : List Nat} (h : i < cs.length) : (cs ++ [q]).getD i 0 = cs.getD i 0 := by
  simp [List.getD, List.getElem?_append_left h]
section S48
variable {T : TX} {G : GP} {p : Nat} {cs W : List Nat} {M : Mem}
theorem PSt.m (S : PSt T G p cs W M) : MtS T p M := S.1
theorem PSt.ss (S : PSt T G p cs W M) : M 80 24 = nI (G.1 + cs.length) := S.2.1.1
theorem PSt.wl (S : PSt T G p cs W M) : M 80 25 = nI W.length := S.2.1.2.1
theorem PSt.op (S : PSt T G p cs W M) : M 80 26 = nI (opn W) := S.2.1.2.2
theorem PSt.n (S : PSt T G p cs W M) : cs.length + W.length + G.2.1 ≤ p ∧ G.1 ≤ 500 + G.2.1 ∧ p ≤ T.1 ∧ T.1 ≤ 100 := ⟨S.2.2.1.1, S.2.2.1.2, S.1.ple, S.1.n100⟩
theorem PSt.w (S : PSt T G p cs W M) : Wst W M := S.2.2.2.2.1
theorem PSt.k (S : PSt T G p cs W M) : PK G M := S.2.2.2.2.2
theorem PSt.tell (S : PSt T G p cs W M) {M1 : Mem} {q : Nat} {W1 : List Nat} (h93 : M1 93 = upd (M 93) (G.1 + cs.length) (trF q)) (hb : ∀ b, b ≠ 80 → b ≠ 93 → M1 b = M b) (h80 : ∀ j, j ≠ 24 → j ≠ 25 → j ≠ 26 → M1 80 j = M 80 j) (h24 : M1 80 24 = nI (G.1 + cs.length + 1)) (h25 : M1 80 25 = nI W1.length) (h26 : M1 80 26 = nI (opn W1)) (hW : Wst W1 M) (hl : cs.length + 1 + W1.length + G.2.1 ≤ p) : PSt T G p (cs ++ [q]) W1 M1 := by
  have K := S.k
  refine ⟨S.1.kept (h80 13 (by omega) (by omega) (by omega)) (h80 14 (by omega) (by omega) (by omega)) (hb 87 (by omega) (by omega)), ⟨?_, h25, h26⟩, ⟨?_, S.2.2.1.2⟩, fun i hi => ?_, hW.kept (fun i _ => by rw [hb 94 (by omega) (by omega)]), ?_⟩
  · rw [List.length_append]; exact h24
  · rw [List.length_append]; exact hl
  · rw [List.length_append] at hi
    have hi2 : i < cs.length + 1 := hi
    rw [h93]
    by_cases e : i = cs.length
    · subst e
      rw [pk_us, gd_last]
    · rw [pk_un (by omega), gd_low (by omega)]
      exact S.2.2.2.1 i (by omega)
  · exact ⟨fun b a1 a2 a3 a4 => (hb b a1 a3).trans (K.1 b a1 a2 a3 a4), fun j a1 a2 a3 a4 a5 => (h80 j a3 a4 a5).trans (K.2.1 j a1 a2 a3 a4 a5), fun i hi => by rw [h93, pk_un (by omega)]; exact K.2.2.1 i hi, fun i hi => by rw [hb 92 (by omega) (by omega)]; exact K.2.2.2 i hi⟩
end S48
theorem np_le {k : Nat} (h : k < 1000) : ¬ nI (k + 1) ≤ 0 := by
  intro z
  have e := Int32.le_iff_toInt_le.mp z
  rw [nI_toInt (by omega)] at e
  have e0 : (0 : Int32).toInt = 0 := by decide
  omega
theorem tr_not : trF 327680 = -nI 33 := by decide
theorem tr_and : trF 196608 = -nI 38 := by decide
theorem tr_or : trF 262144 = -nI 124 := by decide
def stW : List Nat → List Nat
  | [] => []
  | c :: r => if c = 33 then stW r else c :: r
def stC : List Nat → List Nat → List Nat
  | [], cs => cs
  | c :: r, cs => if c = 33 then stC r (cs ++ [327680]) else cs
def seW (g : Nat) : List Nat → List Nat
  | [] => []
  | c :: r => if c = 38 ∨ (c = 124 ∧ g ≠ 38) then seW g r else c :: r
def seC (g : Nat) : List Nat → List Nat → List Nat
  | [], cs => cs
  | c :: r, cs => if c = 38 ∨ (c = 124 ∧ g ≠ 38) then seC g r (cs ++ [if c = 38 then 196608 else 262144]) else cs
set_option maxRecDepth 10000 in
set_option maxHeartbeats 4000000 in
theorem m_emits : ∀ (d : Nat) {h : hp_T} {M : Mem} (C : CS h) {s : Nat} {x : Int32} (hs : M 80 24 = nI s) (h6 : s < 600), Ev d nX8_emits [.ref 80, .int x] (wi h M) (fun M1 => M1 = emM M s x) := by
  intro d h M C s x hs h6
  refine Ex.of mm_X8_emits (Nat.le_of_ble_eq_true rfl) fun w κ X hk hnm => ?_
  refine r_aload_n (pc := 0) X dX8_emits_0 rfl ?_
  refine r_getr (pc := 1) X dX8_emits_1 tf_8_77 rfl (kc_80 C) (rc_80_22 C) ?_
  refine r_aload_n (pc := 4) X dX8_emits_4 rfl ?_
  refine r_getiW (pc := 5) X dX8_emits_5 tf_8_83 rfl (kc_80 C) hs ?_
  refine r_iload_n (pc := 8) X dX8_emits_8 rfl ?_
  refine r_iastW (pc := 9) X dX8_emits_9 (kc_93 C) rfl (show s < 600 by omega) (by omega) ?_
  refine r_aload_n (pc := 10) X dX8_emits_10 rfl ?_
  refine r_dup (pc := 11) X dX8_emits_11 rfl ?_
  refine r_getiW (pc := 12) X dX8_emits_12 tf_8_83 rfl (kc_80 C) hs ?_
  refine r_iconst (pc := 15) (v := (nI 1)) X dX8_emits_15 (by decide) ?_
  refine r_iadd (pc := 16) X dX8_emits_16 ?_
  refine r_putiW (pc := 17) X dX8_emits_17 tf_8_83 rfl (Or.inl rfl) (kc_80 C) ⟨rfl, rfl⟩ ?_
  refine r_vret (pc := 20) X dX8_emits_20 rfl ?_
  exact ⟨⟨_, rfl, rfl, rfl⟩, rfl⟩
set_option maxRecDepth 10000 in
set_option maxHeartbeats 4000000 in
theorem l_mwhole : ∀ (d : Nat) {h : hp_T} {T : TX} {G : GP} {p : Nat} (C : CS h) {w : wc_T} {κ : cx_T} {Φ : Option Value → hp_T → Prop} (X : CX w κ (d + 1) 8 cX8_whole 1 none Φ) (W : List Nat) {cs : List Nat} {M : Mem} (S : PSt T G p cs W M) (hΦ : ∀ M1, PSt T G p (stC W cs) (stW W) M1 → Φ none (wi h M1)), GG w κ 0 [some (.ref 80)] [] (wi h M) := by
  intro d h T G p C w κ Φ X W
  induction W with
  | nil =>
    intro cs M S hΦ
    refine r_aload_n (pc := 0) X dX8_whole_0 rfl ?_
    refine r_getiW (pc := 1) X dX8_whole_1 tf_8_86 rfl (kc_80 C) (show M 80 25 = nI 0 from S.wl) ?_
    refine r_if_le (pc := 4) X dX8_whole_4 (tgt := 52) (by decide) (fun c4 => ?_) (fun c4 => ?_)
    · refine r_vret (pc := 52) X dX8_whole_52 rfl ?_
      exact hΦ M S
    · exact absurd (show nI 0 ≤ 0 by decide) c4
  | cons c r ih =>
    intro cs M S hΦ
    have n1 := S.n
    have n2 : cs.length + (r.length + 1) + G.2.1 ≤ p := n1.1
    have c7 := S.w.1.2
    refine r_aload_n (pc := 0) X dX8_whole_0 rfl ?_
    refine r_getiW (pc := 1) X dX8_whole_1 tf_8_86 rfl (kc_80 C) (show M 80 25 = nI (r.length + 1) from S.wl) ?_
    refine r_if_le (pc := 4) X dX8_whole_4 (tgt := 52) (by decide) (fun c4 => ?_) (fun c4 => ?_)
    · exact absurd c4 (np_le (by omega))
    · refine r_aload_n (pc := 7) X dX8_whole_7 rfl ?_
      refine r_getr (pc := 8) X dX8_whole_8 tf_8_80 rfl (kc_80 C) (rc_80_23 C) ?_
      refine r_aload_n (pc := 11) X dX8_whole_11 rfl ?_
      refine r_getiW (pc := 12) X dX8_whole_12 tf_8_86 rfl (kc_80 C) (show M 80 25 = nI (r.length + 1) from S.wl) ?_
      refine r_iconst (pc := 15) (v := (nI 1)) X dX8_whole_15 (by decide) ?_
      refine r_isub (pc := 16) X dX8_whole_16 ?_
      rw [nI_subn (by omega), Nat.add_sub_cancel]
      refine r_ialdW (pc := 17) X dX8_whole_17 (kc_94 C) rfl (show r.length < 101 by omega) (by omega) S.w.1.1 ?_
      refine r_bipush (pc := 18) (v := (nI 33)) X dX8_whole_18 (by decide) ?_
      refine r_icmp_neN (pc := 20) X dX8_whole_20 (tgt := 52) (by decide) (by omega) (by omega) (fun c20 => ?_) (fun c20 => ?_)
      · refine r_vret (pc := 52) X dX8_whole_52 rfl ?_
        have e1 : stW (c :: r) = c :: r := if_neg c20
        have e2 : stC (c :: r) cs = cs := if_neg c20
        rw [e1, e2] at hΦ
        exact hΦ M S
      · subst c20
        have h26 : M 80 26 = nI (opn r + 1) := S.op.trans (congrArg nI (show opn (33 :: r) = opn r + 1 from if_pos (Or.inl rfl)))
        refine r_aload_n (pc := 23) X dX8_whole_23 rfl ?_
        refine r_bipush (pc := 24) (v := (-33)) X dX8_whole_24 (by decide) ?_
        refine r_c0_1VW (pc := 26) X rfl dX8_whole_26 tc_8_269 mm_X8_emits (kc_80 C) rfl rfl (m_emits d C S.ss (by omega)) (Nat.le_of_ble_eq_true rfl) (fun M26 q26 => ?_)
        subst q26
        refine r_aload_n (pc := 29) X dX8_whole_29 rfl ?_
        refine r_dup (pc := 30) X dX8_whole_30 rfl ?_
        refine r_getiW (pc := 31) X dX8_whole_31 tf_8_86 rfl (kc_80 C) ((em_80 (by omega)).trans (show M 80 25 = nI (r.length + 1) from S.wl)) ?_
        refine r_iconst (pc := 34) (v := (nI 1)) X dX8_whole_34 (by decide) ?_
        refine r_isub (pc := 35) X dX8_whole_35 ?_
        refine r_putiW (pc := 36) X dX8_whole_36 tf_8_86 rfl (Or.inl rfl) (kc_80 C) ⟨rfl, rfl⟩ ?_
        refine r_aload_n (pc := 39) X dX8_whole_39 rfl ?_
        refine r_dup (pc := 40) X dX8_whole_40 rfl ?_
        refine r_getiW (pc := 41) X dX8_whole_41 tf_8_89 rfl (kc_80 C) (show _ = nI (opn r + 1) from by rw [mU_eq, pk_un (by omega), em_80 (by omega)]; exact h26) ?_
        refine r_iconst (pc := 44) (v := (nI 1)) X dX8_whole_44 (by decide) ?_
        refine r_isub (pc := 45) X dX8_whole_45 ?_
        refine r_putiW (pc := 46) X dX8_whole_46 tf_8_89 rfl (Or.inl rfl) (kc_80 C) ⟨rfl, rfl⟩ ?_
        refine r_goto (pc := 49) X dX8_whole_49 (tgt := 0) (by decide) ?_
        have e1 : stW (33 :: r) = stW r := if_pos rfl
        have e2 : stC (33 :: r) cs = stC r (cs ++ [327680]) := if_pos rfl
        rw [e1, e2] at hΦ
        refine ih (PSt.tell (W1 := r) (q := 327680) S ?_ ?_ ?_ ?_ ?_ ?_ S.w.2 (by omega)) hΦ
        · rw [mU_ne (by omega), mU_ne (by omega), em_93]; exact congrArg (upd (M 93) (G.1 + cs.length)) (by decide)
        · intro b a1 a2; rw [mU_ne a1, mU_ne a1, em_b a1 a2]
        · intro j a1 a2 a3; rw [mU_eq, pk_un a3, mU_eq, pk_un a2, em_80 a1]
        · rw [mU_eq, pk_un (by omega), mU_eq, pk_un (by omega), em_24]
        · rw [mU_eq, pk_un (by omega), mU_eq, pk_us, nI_subn (by omega)]; rfl
        · rw [mU_eq, pk_us, nI_subn (by omega)]; rfl
