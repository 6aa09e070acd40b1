/-! the reader: the text, place, what was emitted -/
abbrev TX : Type := Nat × (Nat → Nat)
abbrev PR : Type := Bool × Nat × List Nat
def aheadI (T : TX) (p : Nat) : Int32 := if p < T.1 then nI (T.2 p) else -1
def aheadN (T : TX) (p : Nat) : Nat := if p < T.1 then T.2 p else 999
def RdS (T : TX) (p : Nat) (out : List Nat) (M : Mem) : Prop := (M 65 1 = nI T.1 ∧ T.1 ≤ 100 ∧ ∀ i, i < T.1 → M 66 i = nI (T.2 i) ∧ T.2 i ≤ 127) ∧ (M 65 2 = nI p ∧ p ≤ T.1) ∧ (M 65 5 = nI out.length ∧ out.length ≤ p) ∧ ∀ i, i < out.length → M 67 i = nI (out.getD i 0)
def RdK (M M1 : Mem) : Prop := (∀ b, b ≠ 65 → b ≠ 67 → M1 b = M b) ∧ ∀ k, k ≠ 2 → k ≠ 3 → k ≠ 5 → M1 65 k = M 65 k
def RdP (T : TX) (r : PR) (M M1 : Mem) : Prop := RdS T r.2.1 r.2.2 M1 ∧ RdK M M1
theorem RdK.rf {M : Mem} : RdK M M := ⟨fun _ _ _ => rfl, fun _ _ _ _ => rfl⟩
theorem RdK.tr {M M1 M2 : Mem} (a : RdK M M1) (b : RdK M1 M2) : RdK M M2 := ⟨fun q h1 h2 => (b.1 q h1 h2).trans (a.1 q h1 h2), fun k h1 h2 h3 => (b.2 k h1 h2 h3).trans (a.2 k h1 h2 h3)⟩
theorem RdK.u {M : Mem} {j : Nat} {x : Int32} (hj : j = 2 ∨ j = 3 ∨ j = 5) : RdK M (mU M 65 (upd (M 65) j x)) := by
  refine ⟨fun b h1 _ => mU_ne h1, fun k h1 h2 h3 => ?_⟩
  rw [mU_eq]
  exact if_neg (by omega)
theorem RdK.u67 {M : Mem} {f : Nat → Int32} : RdK M (mU M 67 f) := ⟨fun b _ h2 => mU_ne h2, fun k _ _ _ => by rw [mU_ne (by omega)]⟩
theorem RdP.tr {T : TX} {r : PR} {M M1 M2 : Mem} (a : RdK M M1) (b : RdP T r M1 M2) : RdP T r M M2 := ⟨b.1, a.tr b.2⟩
section SRd
variable {T : TX} {p : Nat} {out : List Nat} {M : Mem}
theorem RdS.len (S : RdS T p out M) : M 65 1 = nI T.1 := S.1.1
theorem RdS.n100 (S : RdS T p out M) : T.1 ≤ 100 := S.1.2.1
theorem RdS.tx (S : RdS T p out M) (h : p < T.1) : M 66 p = nI (T.2 p) := (S.1.2.2 p h).1
theorem RdS.t7 (S : RdS T p out M) (h : p < T.1) : T.2 p ≤ 127 := (S.1.2.2 p h).2
theorem RdS.pl (S : RdS T p out M) : M 65 2 = nI p := S.2.1.1
theorem RdS.ple (S : RdS T p out M) : p ≤ T.1 := S.2.1.2
theorem RdS.us (S : RdS T p out M) : M 65 5 = nI out.length := S.2.2.1.1
theorem RdS.ule (S : RdS T p out M) : out.length ≤ p := S.2.2.1.2
theorem RdS.adv (S : RdS T p out M) (h : p < T.1) : RdS T (p + 1) out (mU M 65 (upd (M 65) 2 (nI p + nI 1))) := by
  obtain ⟨⟨a1, a2, a3⟩, ⟨b1, b2⟩, ⟨c1, c2⟩, e⟩ := S
  refine ⟨⟨?_, a2, fun i hi => ?_⟩, ⟨?_, h⟩, ⟨?_, Nat.le_succ_of_le c2⟩, fun i hi => ?_⟩
  · rw [mU_eq]; exact a1
  · rw [mU_ne (by omega)]; exact a3 i hi
  · rw [mU_eq, nI_add]; rfl
  · rw [mU_eq]; exact c1
  · rw [mU_ne (by omega)]; exact e i hi
theorem RdS.num (S : RdS T p out M) {x : Int32} : RdS T p out (mU M 65 (upd (M 65) 3 x)) := by
  obtain ⟨⟨a1, a2, a3⟩, ⟨b1, b2⟩, ⟨c1, c2⟩, e⟩ := S
  refine ⟨⟨?_, a2, fun i hi => ?_⟩, ⟨?_, b2⟩, ⟨?_, c2⟩, fun i hi => ?_⟩
  · rw [mU_eq]; exact a1
  · rw [mU_ne (by omega)]; exact a3 i hi
  · rw [mU_eq]; exact b1
  · rw [mU_eq]; exact c1
  · rw [mU_ne (by omega)]; exact e i hi
theorem RdS.emit (S : RdS T p out M) {c : Nat} (hc : out.length + 1 ≤ p) : RdS T p (out ++ [c]) (mU (mU M 67 (upd (M 67) out.length (nI c))) 65 (upd (mU M 67 (upd (M 67) out.length (nI c)) 65) 5 (nI out.length + nI 1))) := by
  obtain ⟨⟨a1, a2, a3⟩, ⟨b1, b2⟩, ⟨c1, c2⟩, e⟩ := S
  refine ⟨⟨?_, a2, fun i hi => ?_⟩, ⟨?_, b2⟩, ⟨?_, ?_⟩, fun i hi => ?_⟩
  · rw [mU_eq, mU_ne (by omega)]; exact a1
  · rw [mU_ne (by omega), mU_ne (by omega)]; exact a3 i hi
  · rw [mU_eq, mU_ne (by omega)]; exact b1
  · rw [mU_eq, nI_add, List.length_append]; rfl
  · rw [List.length_append]; exact hc
  · rw [mU_ne (by omega), mU_eq]
    rw [List.length_append] at hi
    have hi : i < out.length + 1 := hi
    unfold upd
    by_cases q : i = out.length
    · subst q
      simp
    · rw [if_neg q, e i (by omega)]
      simp [List.getD_eq_getElem?_getD, List.getElem?_append_left (show i < out.length by omega)]
theorem ahead_of (S : RdS T p out M) {k : Nat} (hk : k < 128) : aheadI T p = nI k ↔ aheadN T p = k := by
  unfold aheadI aheadN
  by_cases h : p < T.1
  · rw [if_pos h, if_pos h, nI_eq (by have := S.t7 h; omega) (by omega)]
  · rw [if_neg h, if_neg h]
    constructor
    · intro e
      have e2 := congrArg Int32.toInt e
      rw [nI_toInt (by omega)] at e2
      have : (-1 : Int32).toInt = -1 := by decide
      omega
    · intro e
      omega
theorem aheadN_lt {k : Nat} (e : aheadN T p = k) (hk : k < 128) : p < T.1 := by
  unfold aheadN at e
  split at e
  · assumption
  · omega
end SRd
def takeF (T : TX) (k p : Nat) (out : List Nat) : PR := if aheadN T p = k then (true, p + 1, out) else (false, p, out)
def digN (T : TX) (p : Nat) : Bool := decide (48 ≤ aheadN T p) && decide (aheadN T p ≤ 57)
def numF (T : TX) (p : Nat) : Bool × Nat × Nat := if digN T p = true then (if digN T (p + 1) = true then (true, p + 2, 10 * (aheadN T p - 48) + (aheadN T (p + 1) - 48)) else (true, p + 1, aheadN T p - 48)) else (false, p, 0)
def codeI (a b c : Int32) : Int32 := a <<< (nI 16 &&& 31) ||| b <<< (nI 8 &&& 31) ||| c
theorem codeI_n : ∀ s, s < 8 → ∀ l, l < 6 → ∀ v, v < 100 → codeI (nI s) (nI l) (nI v) = nI (s * 65536 + l * 256 + v) := by decide +kernel
theorem i2c_n : ∀ k, k < 128 → ((nI k).toUInt32 % 65536).toInt32 = nI k := by decide +kernel

set_option maxRecDepth 10000 in
set_option maxHeartbeats 4000000 in
theorem e_ahead : ∀ (d : Nat) {h : hp_T} {M : Mem} {T : TX} {p : Nat} {out : List Nat} (C : CS h) (S : RdS T p out M), Ep d nX3_ahead [.ref 65] (wi h M) (.int (aheadI T p)) := by
  intro d h M T p out C S
  have n1 := S.n100
  have n2 := S.ple
  have n3 := S.ule
  refine Ex.of mm_X3_ahead (Nat.le_of_ble_eq_true rfl) fun w κ X hk hnm => ?_
  refine r_aload_n (pc := 0) X dX3_ahead_0 rfl ?_
  refine r_getiW (pc := 1) X dX3_ahead_1 tf_3_23 rfl (kc_65 C) S.pl ?_
  refine r_aload_n (pc := 4) X dX3_ahead_4 rfl ?_
  refine r_getiW (pc := 5) X dX3_ahead_5 tf_3_19 rfl (kc_65 C) S.len ?_
  refine r_icmp_geN (pc := 8) X dX3_ahead_8 (tgt := 23) (by decide) (by omega) (by omega) (fun c8 => ?_) (fun c8 => ?_)
  · refine r_iconst (pc := 23) (v := (-1)) X dX3_ahead_23 (by decide) ?_
    refine r_iret (pc := 24) X dX3_ahead_24 rfl rfl ?_
    first
      | exact ⟨⟨by rw [aheadI, if_neg (by omega)], rfl⟩, rfl⟩
      | exact ⟨⟨by rw [aheadI, if_pos (by omega)], rfl⟩, rfl⟩
  · refine r_aload_n (pc := 11) X dX3_ahead_11 rfl ?_
    refine r_getr (pc := 12) X dX3_ahead_12 tf_3_11 rfl (kc_65 C) (rc_65_0 C) ?_
    refine r_aload_n (pc := 15) X dX3_ahead_15 rfl ?_
    refine r_getiW (pc := 16) X dX3_ahead_16 tf_3_23 rfl (kc_65 C) S.pl ?_
    refine r_baldW (pc := 19) X dX3_ahead_19 (kc_66 C) rfl (by omega) (by omega) (S.tx (by omega)) ?_
    refine r_goto (pc := 20) X dX3_ahead_20 (tgt := 24) (by decide) ?_
    refine r_iret (pc := 24) X dX3_ahead_24 rfl rfl ?_
    first
      | exact ⟨⟨by rw [aheadI, if_neg (by omega)], rfl⟩, rfl⟩
      | exact ⟨⟨by rw [aheadI, if_pos (by omega)], rfl⟩, rfl⟩
set_option maxRecDepth 10000 in
set_option maxHeartbeats 4000000 in
theorem e_among : ∀ (d : Nat) {h : hp_T} {M : Mem} {T : TX} {p : Nat} {out : List Nat} (C : CS h) (S : RdS T p out M) {i : Nat} (hi : i < 7), Ep (d + 4) nX3_among [.ref 65, .ref (3 + i)] (wi h M) (.int (if p < T.1 then idxF i (nI (T.2 p)) else -1)) := by
  intro d h M T p out C S i hi
  have n1 := S.n100
  have n2 := S.ple
  have n3 := S.ule
  refine Ex.of mm_X3_among (Nat.le_of_ble_eq_true rfl) fun w κ X hk hnm => ?_
  refine r_aload_n (pc := 0) X dX3_among_0 rfl ?_
  refine r_getiW (pc := 1) X dX3_among_1 tf_3_23 rfl (kc_65 C) S.pl ?_
  refine r_aload_n (pc := 4) X dX3_among_4 rfl ?_
  refine r_getiW (pc := 5) X dX3_among_5 tf_3_19 rfl (kc_65 C) S.len ?_
  refine r_icmp_geN (pc := 8) X dX3_among_8 (tgt := 28) (by decide) (by omega) (by omega) (fun c8 => ?_) (fun c8 => ?_)
  · refine r_iconst (pc := 28) (v := (-1)) X dX3_among_28 (by decide) ?_
    refine r_iret (pc := 29) X dX3_among_29 rfl rfl ?_
    first
      | exact ⟨⟨by rw [if_neg (by omega)], rfl⟩, rfl⟩
      | exact ⟨⟨by rw [if_pos (by omega)], rfl⟩, rfl⟩
  · refine r_aload_n (pc := 11) X dX3_among_11 rfl ?_
    refine r_aload_n (pc := 12) X dX3_among_12 rfl ?_
    refine r_getr (pc := 13) X dX3_among_13 tf_3_11 rfl (kc_65 C) (rc_65_0 C) ?_
    refine r_aload_n (pc := 16) X dX3_among_16 rfl ?_
    refine r_getiW (pc := 17) X dX3_among_17 tf_3_23 rfl (kc_65 C) S.pl ?_
    refine r_baldW (pc := 20) X dX3_among_20 (kc_66 C) rfl (by omega) (by omega) (S.tx (by omega)) ?_
    refine r_i2c (pc := 21) X dX3_among_21 rfl ?_
    rw [i2c_n _ (by have := S.t7 (by omega); omega)]
    refine r_cS_1P (pc := 22) X rfl dX3_among_22 tc_3_105 mm_J0_indexOf_0f7a4 (by first | exact hi | decide) rfl (j_idx d hi (by have := S.t7 (by omega); omega)) (Nat.le_of_ble_eq_true rfl) ?_
    refine r_goto (pc := 25) X dX3_among_25 (tgt := 29) (by decide) ?_
    refine r_iret (pc := 29) X dX3_among_29 rfl rfl ?_
    first
      | exact ⟨⟨by rw [if_neg (by omega)], rfl⟩, rfl⟩
      | exact ⟨⟨by rw [if_pos (by omega)], rfl⟩, rfl⟩
set_option maxRecDepth 10000 in
set_option maxHeartbeats 4000000 in
theorem e_take : ∀ (d : Nat) {h : hp_T} {M : Mem} {T : TX} {p : Nat} {out : List Nat} (C : CS h) (S : RdS T p out M) {k : Nat} (hc : k < 128), Ei d nX3_take [.ref 65, .int (nI k)] (wi h M) (fun r M1 => r = b2 (takeF T k p out).1 ∧ RdP T (takeF T k p out) M M1) := by
  intro d h M T p out C S k hc
  have n1 := S.n100
  have n2 := S.ple
  have n3 := S.ule
  refine Ex.of mm_X3_take (Nat.le_of_ble_eq_true rfl) fun w κ X hk hnm => ?_
  refine r_aload_n (pc := 0) X dX3_take_0 rfl ?_
  refine r_getiW (pc := 1) X dX3_take_1 tf_3_23 rfl (kc_65 C) S.pl ?_
  refine r_aload_n (pc := 4) X dX3_take_4 rfl ?_
  refine r_getiW (pc := 5) X dX3_take_5 tf_3_19 rfl (kc_65 C) S.len ?_
  refine r_icmp_geN (pc := 8) X dX3_take_8 (tgt := 24) (by decide) (by omega) (by omega) (fun c8 => ?_) (fun c8 => ?_)
  · refine r_iconst (pc := 24) (v := (nI 0)) X dX3_take_24 (by decide) ?_
    refine r_iret (pc := 25) X dX3_take_25 rfl rfl ?_
    have e : takeF T k p out = (false, p, out) := by
      refine if_neg (fun e => ?_)
      unfold aheadN at e
      first
      | (rw [if_neg (by omega)] at e; omega)
      | (rw [if_pos (by omega)] at e; exact c21 (by rw [e]))
    rw [e]
    exact ⟨⟨_, M, rfl, rfl, rfl, S, RdK.rf⟩, rfl⟩
  · refine r_aload_n (pc := 11) X dX3_take_11 rfl ?_
    refine r_getr (pc := 12) X dX3_take_12 tf_3_11 rfl (kc_65 C) (rc_65_0 C) ?_
    refine r_aload_n (pc := 15) X dX3_take_15 rfl ?_
    refine r_getiW (pc := 16) X dX3_take_16 tf_3_23 rfl (kc_65 C) S.pl ?_
    refine r_baldW (pc := 19) X dX3_take_19 (kc_66 C) rfl (by omega) (by omega) (S.tx (by omega)) ?_
    refine r_iload_n (pc := 20) X dX3_take_20 rfl ?_
    refine r_icmp_eq (pc := 21) X dX3_take_21 (tgt := 26) (by decide) (fun c21 => ?_) (fun c21 => ?_)
    · refine r_aload_n (pc := 26) X dX3_take_26 rfl ?_
      refine r_dup (pc := 27) X dX3_take_27 rfl ?_
      refine r_getiW (pc := 28) X dX3_take_28 tf_3_23 rfl (kc_65 C) S.pl ?_
      refine r_iconst (pc := 31) (v := (nI 1)) X dX3_take_31 (by decide) ?_
      refine r_iadd (pc := 32) X dX3_take_32 ?_
      refine r_putiW (pc := 33) X dX3_take_33 tf_3_23 rfl (Or.inl rfl) (kc_65 C) ⟨rfl, rfl⟩ ?_
      refine r_iconst (pc := 36) (v := (nI 1)) X dX3_take_36 (by decide) ?_
      refine r_iret (pc := 37) X dX3_take_37 rfl rfl ?_
      have hp : p < T.1 := by omega
      have e : takeF T k p out = (true, p + 1, out) := by
        refine if_pos ?_
        unfold aheadN
        rw [if_pos hp]
        exact (nI_eq (by have := S.t7 hp; omega) (by omega)).mp c21
      rw [e]
      exact ⟨⟨_, _, rfl, rfl, rfl, S.adv hp, RdK.u (Or.inl rfl)⟩, rfl⟩
    · refine r_iconst (pc := 24) (v := (nI 0)) X dX3_take_24 (by decide) ?_
      refine r_iret (pc := 25) X dX3_take_25 rfl rfl ?_
      have e : takeF T k p out = (false, p, out) := by
        refine if_neg (fun e => ?_)
        unfold aheadN at e
        first
        | (rw [if_neg (by omega)] at e; omega)
        | (rw [if_pos (by omega)] at e; exact c21 (by rw [e]))
      rw [e]
      exact ⟨⟨_, M, rfl, rfl, rfl, S, RdK.rf⟩, rfl⟩
set_option maxRecDepth 10000 in
set_option maxHeartbeats 4000000 in
theorem e_code : ∀ (d : Nat) {h : hp_T} (a b c : Int32), Ep d nX1_code [.int a, .int b, .int c] h (.int (codeI a b c)) := by
  intro d h a b c
  refine Ex.of mm_X1_code (Nat.le_of_ble_eq_true rfl) fun w κ X hk hnm => ?_
  refine r_iload_n (pc := 0) X dX1_code_0 rfl ?_
  refine r_bipush (pc := 1) (v := (nI 16)) X dX1_code_1 (by decide) ?_
  refine r_ishl (pc := 3) X dX1_code_3 ?_
  refine r_iload_n (pc := 4) X dX1_code_4 rfl ?_
  refine r_bipush (pc := 5) (v := (nI 8)) X dX1_code_5 (by decide) ?_
  refine r_ishl (pc := 7) X dX1_code_7 ?_
  refine r_ior (pc := 8) X dX1_code_8 ?_
  refine r_iload_n (pc := 9) X dX1_code_9 rfl ?_
  refine r_ior (pc := 10) X dX1_code_10 ?_
  refine r_iret (pc := 11) X dX1_code_11 rfl rfl ?_
  exact ⟨⟨rfl, rfl⟩, rfl⟩
set_option maxRecDepth 10000 in
set_option maxHeartbeats 4000000 in
theorem e_emit : ∀ (d : Nat) {h : hp_T} {M : Mem} {T : TX} {p : Nat} {out : List Nat} (C : CS h) (S : RdS T p out M) {s l v : Nat} (hs : s < 8) (hl : l < 6) (hv : v < 100) (hp : out.length + 1 ≤ p), Ev (d + 1) nX3_emit [.ref 65, .int (nI s), .int (nI l), .int (nI v)] (wi h M) (fun M1 => RdP T (true, p, out ++ [s * 65536 + l * 256 + v]) M M1) := by
  intro d h M T p out C S s l v hs hl hv hp
  have n1 := S.n100
  have n2 := S.ple
  have n3 := S.ule
  refine Ex.of mm_X3_emit (Nat.le_of_ble_eq_true rfl) fun w κ X hk hnm => ?_
  refine r_aload_n (pc := 0) X dX3_emit_0 rfl ?_
  refine r_getiW (pc := 1) X dX3_emit_1 tf_3_26 rfl (kc_65 C) S.us ?_
  refine r_bipush (pc := 4) (v := (nI 100)) X dX3_emit_4 (by decide) ?_
  refine r_icmp_geN (pc := 6) X dX3_emit_6 (tgt := 34) (by decide) (by omega) (by omega) (fun c6 => ?_) (fun c6 => ?_)
  · exact absurd c6 (by omega)
  · refine r_aload_n (pc := 9) X dX3_emit_9 rfl ?_
    refine r_getr (pc := 10) X dX3_emit_10 tf_3_15 rfl (kc_65 C) (rc_65_4 C) ?_
    refine r_aload_n (pc := 13) X dX3_emit_13 rfl ?_
    refine r_getiW (pc := 14) X dX3_emit_14 tf_3_26 rfl (kc_65 C) S.us ?_
    refine r_iload_n (pc := 17) X dX3_emit_17 rfl ?_
    refine r_iload_n (pc := 18) X dX3_emit_18 rfl ?_
    refine r_iload_n (pc := 19) X dX3_emit_19 rfl ?_
    refine r_c1_3P (pc := 20) X rfl dX3_emit_20 tc_3_109 mm_X1_code (e_code d _ _ _) (Nat.le_of_ble_eq_true rfl) ?_
    rw [codeI_n s hs l hl v hv]
    refine r_iastW (pc := 23) X dX3_emit_23 (kc_67 C) rfl (by omega) (by omega) ?_
    refine r_aload_n (pc := 24) X dX3_emit_24 rfl ?_
    refine r_dup (pc := 25) X dX3_emit_25 rfl ?_
    refine r_getiW (pc := 26) X dX3_emit_26 tf_3_26 rfl (kc_65 C) S.us ?_
    refine r_iconst (pc := 29) (v := (nI 1)) X dX3_emit_29 (by decide) ?_
    refine r_iadd (pc := 30) X dX3_emit_30 ?_
    refine r_putiW (pc := 31) X dX3_emit_31 tf_3_26 rfl (Or.inl rfl) (kc_65 C) ⟨rfl, rfl⟩ ?_
    refine r_vret (pc := 34) X dX3_emit_34 rfl ?_
    exact ⟨⟨_, rfl, rfl, S.emit hp, RdK.u67.tr (RdK.u (Or.inr (Or.inr rfl)))⟩, rfl⟩
