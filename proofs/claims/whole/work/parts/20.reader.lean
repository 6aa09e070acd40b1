/-! the reader: the text, place, what was emitted -/
abbrev TX : Type := Nat × (Nat → Nat)
abbrev PR : Type := Bool × Nat × List Nat
def aheadI (T : TX) (p : Nat) : Int32 := if p < T.1 then nI (T.2 p) else -1
def aheadN (T : TX) (p : Nat) : Nat := if p < T.1 then T.2 p else 999
def RdS (T : TX) (p : Nat) (out : List Nat) (M : Mem) : Prop := (M 65 1 = nI T.1 ∧ T.1 ≤ 100 ∧ ∀ i, i < T.1 → M 66 i = nI (T.2 i) ∧ T.2 i ≤ 127) ∧ (M 65 2 = nI p ∧ p ≤ T.1) ∧ (M 65 5 = nI out.length ∧ out.length ≤ p) ∧ ∀ i, i < out.length → M 67 i = nI (out.getD i 0)
def RdK (M M1 : Mem) : Prop := (∀ b, b ≠ 65 → b ≠ 67 → M1 b = M b) ∧ ∀ k, k ≠ 2 → k ≠ 3 → k ≠ 5 → M1 65 k = M 65 k
def RdP (T : TX) (r : PR) (M M1 : Mem) : Prop := RdS T r.2.1 r.2.2 M1 ∧ RdK M M1
theorem RdK.rf {M : Mem} : RdK M M := ⟨fun _ _ _ => rfl, fun _ _ _ _ => rfl⟩
theorem RdK.tr {M M1 M2 : Mem} (a : RdK M M1) (b : RdK M1 M2) : RdK M M2 := ⟨fun q h1 h2 => (b.1 q h1 h2).trans (a.1 q h1 h2), fun k h1 h2 h3 => (b.2 k h1 h2 h3).trans (a.2 k h1 h2 h3)⟩
theorem RdK.u {M : Mem} {j : Nat} {x : Int32} (hj : j = 2 ∨ j = 3 ∨ j = 5) : RdK M (mU M 65 (upd (M 65) j x)) := by
  refine ⟨fun b h1 _ => mU_ne h1, fun k h1 h2 h3 => ?_⟩
  rw [mU_eq]
  exact if_neg (by omega)
theorem RdK.u67 {M : Mem} {f : Nat → Int32} : RdK M (mU M 67 f) := ⟨fun b _ h2 => mU_ne h2, fun k _ _ _ => by rw [mU_ne (by omega)]⟩
theorem RdP.tr {T : TX} {r : PR} {M M1 M2 : Mem} (a : RdK M M1) (b : RdP T r M1 M2) : RdP T r M M2 := ⟨b.1, a.tr b.2⟩
section SRd
variable {T : TX} {p : Nat} {out : List Nat} {M : Mem}
theorem RdS.len (S : RdS T p out M) : M 65 1 = nI T.1 := S.1.1
theorem RdS.n100 (S : RdS T p out M) : T.1 ≤ 100 := S.1.2.1
theorem RdS.tx (S : RdS T p out M) (h : p < T.1) : M 66 p = nI (T.2 p) := (S.1.2.2 p h).1
theorem RdS.t7 (S : RdS T p out M) (h : p < T.1) : T.2 p ≤ 127 := (S.1.2.2 p h).2
theorem RdS.pl (S : RdS T p out M) : M 65 2 = nI p := S.2.1.1
theorem RdS.ple (S : RdS T p out M) : p ≤ T.1 := S.2.1.2
theorem RdS.us (S : RdS T p out M) : M 65 5 = nI out.length := S.2.2.1.1
theorem RdS.ule (S : RdS T p out M) : out.length ≤ p := S.2.2.1.2
theorem RdS.adv (S : RdS T p out M) (h : p < T.1) : RdS T (p + 1) out (mU M 65 (upd (M 65) 2 (nI p + nI 1))) := by
  obtain ⟨⟨a1, a2, a3⟩, ⟨b1, b2⟩, ⟨c1, c2⟩, e⟩ := S
  refine ⟨⟨?_, a2, fun i hi => ?_⟩, ⟨?_, h⟩, ⟨?_, Nat.le_succ_of_le c2⟩, fun i hi => ?_⟩
  · rw [mU_eq]; exact a1
  · rw [mU_ne (by omega)]; exact a3 i hi
  · rw [mU_eq, nI_add]; rfl
  · rw [mU_eq]; exact c1
  · rw [mU_ne (by omega)]; exact e i hi
theorem RdS.num (S : RdS T p out M) {x : Int32} : RdS T p out (mU M 65 (upd (M 65) 3 x)) := by
  obtain ⟨⟨a1, a2, a3⟩, ⟨b1, b2⟩, ⟨c1, c2⟩, e⟩ := S
  refine ⟨⟨?_, a2, fun i hi => ?_⟩, ⟨?_, b2⟩, ⟨?_, c2⟩, fun i hi => ?_⟩
  · rw [mU_eq]; exact a1
  · rw [mU_ne (by omega)]; exact a3 i hi
  · rw [mU_eq]; exact b1
  · rw [mU_eq]; exact c1
  · rw [mU_ne (by omega)]; exact e i hi
theorem RdS.emit (S : RdS T p out M) {c : Nat} (hc : out.length + 1 ≤ p) : RdS T p (out ++ [c]) (mU (mU M 67 (upd (M 67) out.length (nI c))) 65 (upd (mU M 67 (upd (M 67) out.length (nI c)) 65) 5 (nI out.length + nI 1))) := by
  obtain ⟨⟨a1, a2, a3⟩, ⟨b1, b2⟩, ⟨c1, c2⟩, e⟩ := S
  refine ⟨⟨?_, a2, fun i hi => ?_⟩, ⟨?_, b2⟩, ⟨?_, ?_⟩, fun i hi => ?_⟩
  · rw [mU_eq, mU_ne (by omega)]; exact a1
  · rw [mU_ne (by omega), mU_ne (by omega)]; exact a3 i hi
  · rw [mU_eq, mU_ne (by omega)]; exact b1
  · rw [mU_eq, nI_add, List.length_append]; rfl
  · rw [List.length_append]; exact hc
  · rw [mU_ne (by omega), mU_eq]
    rw [List.length_append] at hi
    have hi : i < out.length + 1 := hi
    unfold upd
    by_cases q : i = out.length
    · subst q
      simp
    · rw [if_neg q, e i (by omega)]
      simp [List.getD_eq_getElem?_getD, List.getElem?_append_left (show i < out.length by omega)]
theorem ahead_of (S : RdS T p out M) {k : Nat} (hk : k < 128) : aheadI T p = nI k ↔ aheadN T p = k := by
  unfold aheadI aheadN
  by_cases h : p < T.1
  · rw [if_pos h, if_pos h, nI_eq (by have := S.t7 h; omega) (by omega)]
  · rw [if_neg h, if_neg h]
    constructor
    · intro e
      have e2 := congrArg Int32.toInt e
      rw [nI_toInt (by omega)] at e2
      have : (-1 : Int32).toInt = -1 := by decide
      omega
    · intro e
      omega
theorem aheadN_lt {k : Nat} (e : aheadN T p = k) (hk : k < 128) : p < T.1 := by
  unfold aheadN at e
  split at e
  · assumption
  · omega
end SRd
def takeF (T : TX) (k p : Nat) (out : List Nat) : PR := if aheadN T p = k then (true, p + 1, out) else (false, p, out)
def digN (T : TX) (p : Nat) : Bool := decide (48 ≤ aheadN T p) && decide (aheadN T p ≤ 57)
def numF (T : TX) (p : Nat) : Bool × Nat × Nat := if digN T p = true then (if digN T (p + 1) = true then (true, p + 2, 10 * (aheadN T p - 48) + (aheadN T (p + 1) - 48)) else (true, p + 1, aheadN T p - 48)) else (false, p, 0)
def codeI (a b c : Int32) : Int32 := a <<< (nI 16 &&& 31) ||| b <<< (nI 8 &&& 31) ||| c
theorem codeI_n : ∀ s, s < 8 → ∀ l, l < 6 → ∀ v, v < 100 → codeI (nI s) (nI l) (nI v) = nI (s * 65536 + l * 256 + v) := by decide +kernel
theorem i2c_n : ∀ k, k < 128 → ((nI k).toUInt32 % 65536).toInt32 = nI k := by decide +kernel

set_option maxRecDepth 10000 in
set_option maxHeartbeats 4000000 in
theorem e_ahead : ∀ (d : Nat) {h : hp_T} {M : Mem} {T : TX} {p : Nat} {out : List Nat} (C : CS h) (S : RdS T p out M), Ep d nX3_ahead [.ref 65] (wi h M) (.int (aheadI T p)) := by
  intro d h M T p out C S
  have n1 := S.n100
  have n2 := S.ple
  have n3 := S.ule
  refine Ex.of mm_X3_ahead (Nat.le_of_ble_eq_true rfl) fun w κ X hk hnm => ?_
  refine r_aload_n (pc := 0) X dX3_ahead_0 rfl ?_
  refine r_getiW (pc := 1) X dX3_ahead_1 tf_3_23 rfl (kc_65 C) S.pl ?_
  refine r_aload_n (pc := 4) X dX3_ahead_4 rfl ?_
  refine r_getiW (pc := 5) X dX3_ahead_5 tf_3_19 rfl (kc_65 C) S.len ?_
  refine r_icmp_geN (pc := 8) X dX3_ahead_8 (tgt := 23) (by decide) (by omega) (by omega) (fun c8 => ?_) (fun c8 => ?_)
  · refine r_iconst (pc := 23) (v := (-1)) X dX3_ahead_23 (by decide) ?_
    refine r_iret (pc := 24) X dX3_ahead_24 rfl rfl ?_
    first
      | exact ⟨⟨by rw [aheadI, if_neg (by omega)], rfl⟩, rfl⟩
      | exact ⟨⟨by rw [aheadI, if_pos (by omega)], rfl⟩, rfl⟩
  · refine r_aload_n (pc := 11) X dX3_ahead_11 rfl ?_
    refine r_getr (pc := 12) X dX3_ahead_12 tf_3_11 rfl (kc_65 C) (rc_65_0 C) ?_
    refine r_aload_n (pc := 15) X dX3_ahead_15 rfl ?_
    refine r_getiW (pc := 16) X dX3_ahead_16 tf_3_23 rfl (kc_65 C) S.pl ?_
    refine r_baldW (pc := 19) X dX3_ahead_19 (kc_66 C) rfl (by omega) (by omega) (S.tx (by omega)) ?_
    refine r_goto (pc := 20) X dX3_ahead_20 (tgt := 24) (by decide) ?_
    refine r_iret (pc := 24) X dX3_ahead_24 rfl rfl ?_
    first
      | exact ⟨⟨by rw [aheadI, if_neg (by omega)], rfl⟩, rfl⟩
      | exact ⟨⟨by rw [aheadI, if_pos (by omega)], rfl⟩, rfl⟩
set_option maxRecDepth 10000 in
set_option maxHeartbeats 4000000 in
theorem e_among : ∀ (d : Nat) {h : hp_T} {M : Mem} {T : TX} {p : Nat} {out : List Nat} (C : CS h) (S : RdS T p out M) {i : Nat} (hi : i < 7), Ep (d + 4) nX3_among [.ref 65, .ref (3 + i)] (wi h M) (.int (if p < T.1 then idxF i (nI (T.2 p)) else -1)) := by
  intro d h M T p out C S i hi
  have n1 := S.n100
  have n2 := S.ple
  have n3 := S.ule
  refine Ex.of mm_X3_among (Nat.le_of_ble_eq_true rfl) fun w κ X hk hnm => ?_
  refine r_aload_n (pc := 0) X dX3_among_0 rfl ?_
  refine r_getiW (pc := 1) X dX3_among_1 tf_3_23 rfl (kc_65 C) S.pl ?_
  refine r_aload_n (pc := 4) X dX3_among_4 rfl ?_
  refine r_getiW (pc := 5) X dX3_among_5 tf_3_19 rfl (kc_65 C) S.len ?_
  refine r_icmp_geN (pc := 8) X dX3_among_8 (tgt := 28) (by decide) (by omega) (by omega) (fun c8 => ?_) (fun c8 => ?_)
  · refine r_iconst (pc := 28) (v := (-1)) X dX3_among_28 (by decide) ?_
    refine r_iret (pc := 29) X dX3_among_29 rfl rfl ?_
    first
      | exact ⟨⟨by rw [if_neg (by omega)], rfl⟩, rfl⟩
      | exact ⟨⟨by rw [if_pos (by omega)], rfl⟩, rfl⟩
  · refine r_aload_n (pc := 11) X dX3_among_11 rfl ?_
    refine r_aload_n (pc := 12) X dX3_among_12 rfl ?_
    refine r_getr (pc := 13) X dX3_among_13 tf_3_11 rfl (kc_65 C) (rc_65_0 C) ?_
    refine r_aload_n (pc := 16) X dX3_among_16 rfl ?_
    refine r_getiW (pc := 17) X dX3_among_17 tf_3_23 rfl (kc_65 C) S.pl ?_
    refine r_baldW (pc := 20) X dX3_among_20 (kc_66 C) rfl (by omega) (by omega) (S.tx (by omega)) ?_
    refine r_i2c (pc := 21) X dX3_among_21 rfl ?_
    rw [i2c_n _ (by have := S.t7 (by omega); omega)]
    refine r_cS_1P (pc := 22) X rfl dX3_among_22 tc_3_105 mm_J0_indexOf_0f7a4 (by first | exact hi | decide) rfl (j_idx d hi (by have := S.t7 (by omega); omega)) (Nat.le_of_ble_eq_true rfl) ?_
    refine r_goto (pc := 25) X dX3_among_25 (tgt := 29) (by decide) ?_
    refine r_iret (pc := 29) X dX3_among_29 rfl rfl ?_
    first
      | exact ⟨⟨by rw [if_neg (by omega)], rfl⟩, rfl⟩
      | exact ⟨⟨by rw [if_pos (by omega)], rfl⟩, rfl⟩
set_option maxRecDepth 10000 in
set_option maxHeartbeats 4000000 in
theorem e_take : ∀ (d : Nat) {h : hp_T} {M : Mem} {T : TX} {p : Nat} {out : List Nat} (C : CS h) (S : RdS T p out M) {k : Nat} (hc : k < 128), Ei d nX3_take [.ref 65, .int (nI k)] (wi h M) (fun r M1 => r = b2 (takeF T k p out).1 ∧ RdP T (takeF T k p out) M M1) := by
  intro d h M T p out C S k hc
  have n1 := S.n100
  have n2 := S.ple
  have n3 := S.ule
  refine Ex.of mm_X3_take (Nat.le_of_ble_eq_true rfl) fun w κ X hk hnm => ?_
  refine r_aload_n (pc := 0) X dX3_take_0 rfl ?_
  refine r_getiW (pc := 1) X dX3_take_1 tf_3_23 rfl (kc_65 C) S.pl ?_
  refine r_aload_n (pc := 4) X dX3_take_4 rfl ?_
  refine r_getiW (pc := 5) X dX3_take_5 tf_3_19 rfl (kc_65 C) S.len ?_
  refine r_icmp_geN (pc := 8) X dX3_take_8 (tgt := 24) (by decide) (by omega) (by omega) (fun c8 => ?_) (fun c8 => ?_)
  · refine r_iconst (pc := 24) (v := (nI 0)) X dX3_take_24 (by decide) ?_
    refine r_iret (pc := 25) X dX3_take_25 rfl rfl ?_
    have e : takeF T k p out = (false, p, out) := by
      refine if_neg (fun e => ?_)
      unfold aheadN at e
      first
      | (rw [if_neg (by omega)] at e; omega)
      | (rw [if_pos (by omega)] at e; exact c21 (by rw [e]))
    rw [e]
    exact ⟨⟨_, M, rfl, rfl, rfl, S, RdK.rf⟩, rfl⟩
  · refine r_aload_n (pc := 11) X dX3_take_11 rfl ?_
    refine r_getr (pc := 12) X dX3_take_12 tf_3_11 rfl (kc_65 C) (rc_65_0 C) ?_
    refine r_aload_n (pc := 15) X dX3_take_15 rfl ?_
    refine r_getiW (pc := 16) X dX3_take_16 tf_3_23 rfl (kc_65 C) S.pl ?_
    refine r_baldW (pc := 19) X dX3_take_19 (kc_66 C) rfl (by omega) (by omega) (S.tx (by omega)) ?_
    refine r_iload_n (pc := 20) X dX3_take_20 rfl ?_
    refine r_icmp_eq (pc := 21) X dX3_take_21 (tgt := 26) (by decide) (fun c21 => ?_) (fun c21 => ?_)
    · refine r_aload_n (pc := 26) X dX3_take_26 rfl ?_
      refine r_dup (pc := 27) X dX3_take_27 rfl ?_
      refine r_getiW (pc := 28) X dX3_take_28 tf_3_23 rfl (kc_65 C) S.pl ?_
      refine r_iconst (pc := 31) (v := (nI 1)) X dX3_take_31 (by decide) ?_
      refine r_iadd (pc := 32) X dX3_take_32 ?_
      refine r_putiW (pc := 33) X dX3_take_33 tf_3_23 rfl (Or.inl rfl) (kc_65 C) ⟨rfl, rfl⟩ ?_
      refine r_iconst (pc := 36) (v := (nI 1)) X dX3_take_36 (by decide) ?_
      refine r_iret (pc := 37) X dX3_take_37 rfl rfl ?_
      have hp : p < T.1 := by omega
      have e : takeF T k p out = (true, p + 1, out) := by
        refine if_pos ?_
        unfold aheadN
        rw [if_pos hp]
        exact (nI_eq (by have := S.t7 hp; omega) (by omega)).mp c21
      rw [e]
      exact ⟨⟨_, _, rfl, rfl, rfl, S.adv hp, RdK.u (Or.inl rfl)⟩, rfl⟩
    · refine r_iconst (pc := 24) (v := (nI 0)) X dX3_take_24 (by decide) ?_
      refine r_iret (pc := 25) X dX3_take_25 rfl rfl ?_
      have e : takeF T k p out = (false, p, out) := by
        refine if_neg (fun e => ?_)
        unfold aheadN at e
        first
        | (rw [if_neg (by omega)] at e; omega)
        | (rw [if_pos (by omega)] at e; exact c21 (by rw [e]))
      rw [e]
      exact ⟨⟨_, M, rfl, rfl, rfl, S, RdK.rf⟩, rfl⟩
set_option maxRecDepth 10000 in
set_option maxHeartbeats 4000000 in
theorem e_code : ∀ (d : Nat) {h : hp_T} (a b c : Int32), Ep d nX1_code [.int a, .int b, .int c] h (.int (codeI a b c)) := by
  intro d h a b c
  refine Ex.of mm_X1_code (Nat.le_of_ble_eq_true rfl) fun w κ X hk hnm => ?_
  refine r_iload_n (pc := 0) X dX1_code_0 rfl ?_
  refine r_bipush (pc := 1) (v := (nI 16)) X dX1_code_1 (by decide) ?_
  refine r_ishl (pc := 3) X dX1_code_3 ?_
  refine r_iload_n (pc := 4) X dX1_code_4 rfl ?_
  refine r_bipush (pc := 5) (v := (nI 8)) X dX1_code_5 (by decide) ?_
  refine r_ishl (pc := 7) X dX1_code_7 ?_
  refine r_ior (pc := 8) X dX1_code_8 ?_
  refine r_iload_n (pc := 9) X dX1_code_9 rfl ?_
  refine r_ior (pc := 10) X dX1_code_10 ?_
  refine r_iret (pc := 11) X dX1_code_11 rfl rfl ?_
  exact ⟨⟨rfl, rfl⟩, rfl⟩
set_option maxRecDepth 10000 in
set_option maxHeartbeats 4000000 in
theorem e_emit : ∀ (d : Nat) {h : hp_T} {M : Mem} {T : TX} {p : Nat} {out : List Nat} (C : CS h) (S : RdS T p out M) {s l v : Nat} (hs : s < 8) (hl : l < 6) (hv : v < 100) (hp : out.length + 1 ≤ p), Ev (d + 1) nX3_emit [.ref 65, .int (nI s), .int (nI l), .int (nI v)] (wi h M) (fun M1 => RdP T (true, p, out ++ [s * 65536 + l * 256 + v]) M M1) := by
  intro d h M T p out C S s l v hs hl hv hp
  have n1 := S.n100
  have n2 := S.ple
  have n3 := S.ule
  refine Ex.of mm_X3_emit (Nat.le_of_ble_eq_true rfl) fun w κ X hk hnm => ?_
  refine r_aload_n (pc := 0) X dX3_emit_0 rfl ?_
  refine r_getiW (pc := 1) X dX3_emit_1 tf_3_26 rfl (kc_65 C) S.us ?_
  refine r_bipush (pc := 4) (v := (nI 100)) X dX3_emit_4 (by decide) ?_
  refine r_icmp_geN (pc := 6) X dX3_emit_6 (tgt := 34) (by decide) (by omega) (by omega) (fun c6 => ?_) (fun c6 => ?_)
  · exact absurd c6 (by omega)
  · refine r_aload_n (pc := 9) X dX3_emit_9 rfl ?_
    refine r_getr (pc := 10) X dX3_emit_10 tf_3_15 rfl (kc_65 C) (rc_65_4 C) ?_
    refine r_aload_n (pc := 13) X dX3_emit_13 rfl ?_
    refine r_getiW (pc := 14) X dX3_emit_14 tf_3_26 rfl (kc_65 C) S.us ?_
    refine r_iload_n (pc := 17) X dX3_emit_17 rfl ?_
    refine r_iload_n (pc := 18) X dX3_emit_18 rfl ?_
    refine r_iload_n (pc := 19) X dX3_emit_19 rfl ?_
    refine r_c1_3P (pc := 20) X rfl dX3_emit_20 tc_3_109 mm_X1_code (e_code d _ _ _) (Nat.le_of_ble_eq_true rfl) ?_
    rw [codeI_n s hs l hl v hv]
    refine r_iastW (pc := 23) X dX3_emit_23 (kc_67 C) rfl (by omega) (by omega) ?_
    refine r_aload_n (pc := 24) X dX3_emit_24 rfl ?_
    refine r_dup (pc := 25) X dX3_emit_25 rfl ?_
    refine r_getiW (pc := 26) X dX3_emit_26 tf_3_26 rfl (kc_65 C) S.us ?_
    refine r_iconst (pc := 29) (v := (nI 1)) X dX3_emit_29 (by decide) ?_
    refine r_iadd (pc := 30) X dX3_emit_30 ?_
    refine r_putiW (pc := 31) X dX3_emit_31 tf_3_26 rfl (Or.inl rfl) (kc_65 C) ⟨rfl, rfl⟩ ?_
    refine r_vret (pc := 34) X dX3_emit_34 rfl ?_
    exact ⟨⟨_, rfl, rfl, S.emit hp, RdK.u67.tr (RdK.u (Or.inr (Or.inr rfl)))⟩, rfl⟩
theorem nI_subn {a b : Nat} (h : b ≤ a) : nI a - nI b = nI (a - b) := by
  have e : nI a = nI (a - b) + nI b := by rw [nI_add]; congr 1; omega
  rw [e, Int32.add_sub_cancel]
theorem dig_low : ∀ a, a < 48 → nI a - nI 48 < 0 := by decide
theorem dig_t {T : TX} {p : Nat} (h : digN T p = true) : p < T.1 ∧ ∃ k, k ≤ 9 ∧ aheadN T p = 48 + k ∧ aheadI T p - nI 48 = nI k := by
  unfold digN at h
  rw [Bool.and_eq_true, decide_eq_true_eq, decide_eq_true_eq] at h
  have hp : p < T.1 := aheadN_lt rfl (by omega)
  refine ⟨hp, aheadN T p - 48, by omega, by omega, ?_⟩
  have e : aheadI T p = nI (aheadN T p) := by unfold aheadI aheadN; rw [if_pos hp, if_pos hp]
  rw [e, nI_subn h.1]
theorem dig_f {T : TX} {p : Nat} {out : List Nat} {M : Mem} (S : RdS T p out M) (h : digN T p = false) : aheadI T p - nI 48 < 0 ∨ nI 9 < aheadI T p - nI 48 := by
  by_cases hp : p < T.1
  · have e : aheadI T p = nI (T.2 p) := if_pos hp
    have e2 : aheadN T p = T.2 p := if_pos hp
    have t7 := S.t7 hp
    unfold digN at h
    rw [e2] at h
    rw [e]
    by_cases h1 : T.2 p < 48
    · exact Or.inl (dig_low _ h1)
    · right
      rw [nI_subn (by omega)]
      refine nI_lt ?_ (by omega)
      have h2 : ¬ T.2 p ≤ 57 := by
        intro z
        rw [decide_eq_true (show 48 ≤ T.2 p by omega), decide_eq_true z] at h
        exact absurd h (by decide)
      omega
  · left
    have e : aheadI T p = -1 := if_neg hp
    rw [e]
    decide
set_option maxRecDepth 10000 in
set_option maxHeartbeats 4000000 in
theorem e_append : ∀ (d s n : Nat) {h : hp_T} {M : Mem} (C : CS h) (hs : s < 128) (hn : n ≤ 100) (hl : M 65 1 = nI n), Ei d nX3_append [.ref 65, .int (nI s)] (wi h M) (fun r M1 => r = (if 100 ≤ n then -4 else nI (n + 1)) ∧ M1 = if 100 ≤ n then M else mU (mU M 66 (upd (M 66) n (nI s))) 65 (upd (M 65) 1 (nI (n + 1)))) := by
  intro d s n h M C hs hn hl
  refine Ex.of mm_X3_append (Nat.le_of_ble_eq_true rfl) fun w κ X hk hnm => ?_
  refine r_aload_n (pc := 0) X dX3_append_0 rfl ?_
  refine r_getiW (pc := 1) X dX3_append_1 tf_3_19 rfl (kc_65 C) hl ?_
  refine r_bipush (pc := 4) (v := (nI 100)) X dX3_append_4 (by decide) ?_
  refine r_icmp_ltN (pc := 6) X dX3_append_6 (tgt := 12) (by decide) (by omega) (by omega) (fun c6 => ?_) (fun c6 => ?_)
  · refine r_aload_n (pc := 12) X dX3_append_12 rfl ?_
    refine r_getr (pc := 13) X dX3_append_13 tf_3_11 rfl (kc_65 C) (rc_65_0 C) ?_
    refine r_aload_n (pc := 16) X dX3_append_16 rfl ?_
    refine r_getiW (pc := 17) X dX3_append_17 tf_3_19 rfl (kc_65 C) hl ?_
    refine r_iload_n (pc := 20) X dX3_append_20 rfl ?_
    refine r_i2b (pc := 21) X dX3_append_21 rfl ?_
    rw [sBy_8 s hs]
    refine r_bastW (pc := 22) X dX3_append_22 (kc_66 C) rfl (by omega) (by omega) (show (nI s).toInt8.toInt32 = nI s from sBy_8 s hs) ?_
    refine r_aload_n (pc := 23) X dX3_append_23 rfl ?_
    refine r_dup (pc := 24) X dX3_append_24 rfl ?_
    refine r_getiW (pc := 25) X dX3_append_25 tf_3_19 rfl (kc_65 C) hl ?_
    refine r_iconst (pc := 28) (v := (nI 1)) X dX3_append_28 (by decide) ?_
    refine r_iadd (pc := 29) X dX3_append_29 ?_
    refine r_putiW (pc := 30) X dX3_append_30 tf_3_19 rfl (Or.inl rfl) (kc_65 C) ⟨rfl, rfl⟩ ?_
    refine r_aload_n (pc := 33) X dX3_append_33 rfl ?_
    refine r_getiW (pc := 34) X dX3_append_34 tf_3_19 rfl (kc_65 C) (show _ = nI (n + 1) by rw [mU_eq]; exact nI_add n 1) ?_
    refine r_iret (pc := 37) X dX3_append_37 rfl rfl ?_
    refine ⟨⟨_, _, rfl, rfl, (if_neg (by omega)).symm, ?_⟩, rfl⟩
    rw [if_neg (by omega), ← nI_add]
    rfl
  · refine r_bipush (pc := 9) (v := (-4)) X dX3_append_9 (by decide) ?_
    refine r_iret (pc := 11) X dX3_append_11 rfl rfl ?_
    exact ⟨⟨_, _, rfl, rfl, (if_pos (by omega)).symm, (if_pos (by omega)).symm⟩, rfl⟩
set_option maxRecDepth 10000 in
set_option maxHeartbeats 4000000 in
theorem e_number : ∀ (d : Nat) {h : hp_T} {M : Mem} {T : TX} {p : Nat} {out : List Nat} (C : CS h) (S : RdS T p out M), Ei (d + 1) nX3_number [.ref 65] (wi h M) (fun r M1 => r = b2 (numF T p).1 ∧ RdP T ((numF T p).1, (numF T p).2.1, out) M M1 ∧ ((numF T p).1 = true → M1 65 3 = nI (numF T p).2.2)) := by
  intro d h M T p out C S
  have n1 := S.n100
  have n2 := S.ple
  have n3 := S.ule
  refine Ex.of mm_X3_number (Nat.le_of_ble_eq_true rfl) fun w κ X hk hnm => ?_
  refine r_aload_n (pc := 0) X dX3_number_0 rfl ?_
  refine r_c0_0P (pc := 1) X rfl dX3_number_1 tc_3_56 mm_X3_ahead (kc_65 C) rfl rfl (e_ahead d C S) (Nat.le_of_ble_eq_true rfl) ?_
  refine r_bipush (pc := 4) (v := (nI 48)) X dX3_number_4 (by decide) ?_
  refine r_isub (pc := 6) X dX3_number_6 ?_
  refine r_istore_n (pc := 7) X dX3_number_7 (Nat.le_of_ble_eq_true rfl) ?_
  refine r_iload_n (pc := 8) X dX3_number_8 rfl ?_
  refine r_if_lt (pc := 9) X dX3_number_9 (tgt := 18) (by decide) (fun c9 => ?_) (fun c9 => ?_)
  · refine r_iconst (pc := 18) (v := (nI 0)) X dX3_number_18 (by decide) ?_
    refine r_iret (pc := 19) X dX3_number_19 rfl rfl ?_
    have e : digN T p = false := by
      cases e : digN T p
      · rfl
      · exfalso
        obtain ⟨hp, k, hk9, ek, ei⟩ := dig_t e
        rw [ei] at c9
        first
        | exact nI_pos (by omega) c9
        | (rw [ei] at c15; exact c15 (nI_le (by omega) (by omega)))
    have e2 : numF T p = (false, p, 0) := by unfold numF; rw [e]; rfl
    rw [e2]
    exact ⟨⟨_, M, rfl, rfl, rfl, ⟨S, RdK.rf⟩, fun z => absurd (show false = true from z) (by decide)⟩, rfl⟩
  · refine r_iload_n (pc := 12) X dX3_number_12 rfl ?_
    refine r_bipush (pc := 13) (v := (nI 9)) X dX3_number_13 (by decide) ?_
    refine r_icmp_le (pc := 15) X dX3_number_15 (tgt := 20) (by decide) (fun c15 => ?_) (fun c15 => ?_)
    · obtain ⟨hp, k, hk9, ek, ei⟩ : p < T.1 ∧ ∃ k, k ≤ 9 ∧ aheadN T p = 48 + k ∧ aheadI T p - nI 48 = nI k := by
        cases e : digN T p
        · exfalso
          rcases dig_f S e with z | z
          · exact c9 z
          · exact Int32.not_le.mpr z c15
        · exact dig_t e
      rw [ei]
      have S1 := S.adv hp
      have S2 := S1.num (x := nI k)
      have K2 : RdK M _ := (RdK.u (x := nI p + nI 1) (Or.inl rfl)).tr (RdK.u (x := nI k) (Or.inr (Or.inl rfl)))
      have hd : digN T p = true := by unfold digN; rw [ek, decide_eq_true (by omega), decide_eq_true (by omega)]; rfl
      refine r_aload_n (pc := 20) X dX3_number_20 rfl ?_
      refine r_dup (pc := 21) X dX3_number_21 rfl ?_
      refine r_getiW (pc := 22) X dX3_number_22 tf_3_23 rfl (kc_65 C) S.pl ?_
      refine r_iconst (pc := 25) (v := (nI 1)) X dX3_number_25 (by decide) ?_
      refine r_iadd (pc := 26) X dX3_number_26 ?_
      refine r_putiW (pc := 27) X dX3_number_27 tf_3_23 rfl (Or.inl rfl) (kc_65 C) ⟨rfl, rfl⟩ ?_
      refine r_aload_n (pc := 30) X dX3_number_30 rfl ?_
      refine r_iload_n (pc := 31) X dX3_number_31 rfl ?_
      refine r_putiW (pc := 32) X dX3_number_32 tf_3_66 rfl (Or.inl rfl) (kc_65 C) ⟨rfl, rfl⟩ ?_
      refine r_aload_n (pc := 35) X dX3_number_35 rfl ?_
      refine r_c0_0P (pc := 36) X rfl dX3_number_36 tc_3_56 mm_X3_ahead (kc_65 C) rfl rfl (e_ahead d C S2) (Nat.le_of_ble_eq_true rfl) ?_
      refine r_bipush (pc := 39) (v := (nI 48)) X dX3_number_39 (by decide) ?_
      refine r_isub (pc := 41) X dX3_number_41 ?_
      refine r_istore_n (pc := 42) X dX3_number_42 (Nat.le_of_ble_eq_true rfl) ?_
      refine r_iload_n (pc := 43) X dX3_number_43 rfl ?_
      refine r_if_lt (pc := 44) X dX3_number_44 (tgt := 76) (by decide) (fun c44 => ?_) (fun c44 => ?_)
      · refine r_iconst (pc := 76) (v := (nI 1)) X dX3_number_76 (by decide) ?_
        refine r_iret (pc := 77) X dX3_number_77 rfl rfl ?_
        first
          | (have e2 : numF T p = (true, p + 2, 10 * k + k2) := by
               unfold numF
               rw [if_pos hd, if_pos hd2, ek, ek2, Nat.add_sub_cancel_left, Nat.add_sub_cancel_left]
             rw [e2]
             refine ⟨⟨_, _, rfl, rfl, rfl, ⟨S3.num, (K2.tr (RdK.u (Or.inl rfl))).tr (RdK.u (Or.inr (Or.inl rfl)))⟩, fun _ => ?_⟩, rfl⟩
             show nI 10 * nI k + nI k2 = nI (10 * k + k2)
             rw [pk_mul, nI_add])
          | (have e : digN T (p + 1) = false := by
               cases e : digN T (p + 1)
               · rfl
               · exfalso
                 obtain ⟨hp2, k2, hk2, ek2, ei2⟩ := dig_t e
                 rw [ei2] at c44
                 first
                 | exact nI_pos (by omega) c44
                 | (rw [ei2] at c50; exact nI_nlt (a := 9) (b := k2) (by omega) (by omega) c50)
             have e2 : numF T p = (true, p + 1, k) := by
               unfold numF
               rw [if_pos hd, if_neg (by rw [e]; decide), ek, Nat.add_sub_cancel_left]
             rw [e2]
             exact ⟨⟨_, _, rfl, rfl, rfl, ⟨S2, K2⟩, fun _ => rfl⟩, rfl⟩)
      · refine r_iload_n (pc := 47) X dX3_number_47 rfl ?_
        refine r_bipush (pc := 48) (v := (nI 9)) X dX3_number_48 (by decide) ?_
        refine r_icmp_gt (pc := 50) X dX3_number_50 (tgt := 76) (by decide) (fun c50 => ?_) (fun c50 => ?_)
        · refine r_iconst (pc := 76) (v := (nI 1)) X dX3_number_76 (by decide) ?_
          refine r_iret (pc := 77) X dX3_number_77 rfl rfl ?_
          first
            | (have e2 : numF T p = (true, p + 2, 10 * k + k2) := by
                 unfold numF
                 rw [if_pos hd, if_pos hd2, ek, ek2, Nat.add_sub_cancel_left, Nat.add_sub_cancel_left]
               rw [e2]
               refine ⟨⟨_, _, rfl, rfl, rfl, ⟨S3.num, (K2.tr (RdK.u (Or.inl rfl))).tr (RdK.u (Or.inr (Or.inl rfl)))⟩, fun _ => ?_⟩, rfl⟩
               show nI 10 * nI k + nI k2 = nI (10 * k + k2)
               rw [pk_mul, nI_add])
            | (have e : digN T (p + 1) = false := by
                 cases e : digN T (p + 1)
                 · rfl
                 · exfalso
                   obtain ⟨hp2, k2, hk2, ek2, ei2⟩ := dig_t e
                   rw [ei2] at c44
                   first
                   | exact nI_pos (by omega) c44
                   | (rw [ei2] at c50; exact nI_nlt (a := 9) (b := k2) (by omega) (by omega) c50)
               have e2 : numF T p = (true, p + 1, k) := by
                 unfold numF
                 rw [if_pos hd, if_neg (by rw [e]; decide), ek, Nat.add_sub_cancel_left]
               rw [e2]
               exact ⟨⟨_, _, rfl, rfl, rfl, ⟨S2, K2⟩, fun _ => rfl⟩, rfl⟩)
        · obtain ⟨hp2, k2, hk2, ek2, ei2⟩ : p + 1 < T.1 ∧ ∃ k, k ≤ 9 ∧ aheadN T (p + 1) = 48 + k ∧ aheadI T (p + 1) - nI 48 = nI k := by
            cases e : digN T (p + 1)
            · exfalso
              rcases dig_f S2 e with z | z
              · exact c44 z
              · exact c50 z
            · exact dig_t e
          rw [ei2]
          have S3 := S2.adv hp2
          have hd2 : digN T (p + 1) = true := by unfold digN; rw [ek2, decide_eq_true (by omega), decide_eq_true (by omega)]; rfl
          refine r_aload_n (pc := 53) X dX3_number_53 rfl ?_
          refine r_dup (pc := 54) X dX3_number_54 rfl ?_
          refine r_getiW (pc := 55) X dX3_number_55 tf_3_23 rfl (kc_65 C) S2.pl ?_
          refine r_iconst (pc := 58) (v := (nI 1)) X dX3_number_58 (by decide) ?_
          refine r_iadd (pc := 59) X dX3_number_59 ?_
          refine r_putiW (pc := 60) X dX3_number_60 tf_3_23 rfl (Or.inl rfl) (kc_65 C) ⟨rfl, rfl⟩ ?_
          refine r_aload_n (pc := 63) X dX3_number_63 rfl ?_
          refine r_bipush (pc := 64) (v := (nI 10)) X dX3_number_64 (by decide) ?_
          refine r_aload_n (pc := 66) X dX3_number_66 rfl ?_
          refine r_getiW (pc := 67) X dX3_number_67 tf_3_66 rfl (kc_65 C) (show _ = nI k from rfl) ?_
          refine r_imul (pc := 70) X dX3_number_70 ?_
          refine r_iload_n (pc := 71) X dX3_number_71 rfl ?_
          refine r_iadd (pc := 72) X dX3_number_72 ?_
          refine r_putiW (pc := 73) X dX3_number_73 tf_3_66 rfl (Or.inl rfl) (kc_65 C) ⟨rfl, rfl⟩ ?_
          refine r_iconst (pc := 76) (v := (nI 1)) X dX3_number_76 (by decide) ?_
          refine r_iret (pc := 77) X dX3_number_77 rfl rfl ?_
          first
            | (have e2 : numF T p = (true, p + 2, 10 * k + k2) := by
                 unfold numF
                 rw [if_pos hd, if_pos hd2, ek, ek2, Nat.add_sub_cancel_left, Nat.add_sub_cancel_left]
               rw [e2]
               refine ⟨⟨_, _, rfl, rfl, rfl, ⟨S3.num, (K2.tr (RdK.u (Or.inl rfl))).tr (RdK.u (Or.inr (Or.inl rfl)))⟩, fun _ => ?_⟩, rfl⟩
               show nI 10 * nI k + nI k2 = nI (10 * k + k2)
               rw [pk_mul, nI_add])
            | (have e : digN T (p + 1) = false := by
                 cases e : digN T (p + 1)
                 · rfl
                 · exfalso
                   obtain ⟨hp2, k2, hk2, ek2, ei2⟩ := dig_t e
                   rw [ei2] at c44
                   first
                   | exact nI_pos (by omega) c44
                   | (rw [ei2] at c50; exact nI_nlt (a := 9) (b := k2) (by omega) (by omega) c50)
               have e2 : numF T p = (true, p + 1, k) := by
                 unfold numF
                 rw [if_pos hd, if_neg (by rw [e]; decide), ek, Nat.add_sub_cancel_left]
               rw [e2]
               exact ⟨⟨_, _, rfl, rfl, rfl, ⟨S2, K2⟩, fun _ => rfl⟩, rfl⟩)
    · refine r_iconst (pc := 18) (v := (nI 0)) X dX3_number_18 (by decide) ?_
      refine r_iret (pc := 19) X dX3_number_19 rfl rfl ?_
      have e : digN T p = false := by
        cases e : digN T p
        · rfl
        · exfalso
          obtain ⟨hp, k, hk9, ek, ei⟩ := dig_t e
          rw [ei] at c9
          first
          | exact nI_pos (by omega) c9
          | (rw [ei] at c15; exact c15 (nI_le (by omega) (by omega)))
      have e2 : numF T p = (false, p, 0) := by unfold numF; rw [e]; rfl
      rw [e2]
      exact ⟨⟨_, M, rfl, rfl, rfl, ⟨S, RdK.rf⟩, fun z => absurd (show false = true from z) (by decide)⟩, rfl⟩
