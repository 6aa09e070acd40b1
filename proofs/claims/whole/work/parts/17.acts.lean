/-! the acts: which bodies run, what they give -/
def begM (M : Mem) (b : Int32) : Mem :=
  let M1 := if M 68 1 < nI 20 then mU M 69 (upd (M 69) (M 68 1).toNatClampNeg b) else M
  mU M1 68 (upd (M1 68) 1 (M 68 1 + nI 1))
def bodyOf (a k : Nat) : Int32 := bodiesL.getD (a * 7 + k) 0
def withF (R : Nat → Nat → Int32 → Mem → Int32 × Mem) (ko : Nat) (v i : Int32) (b : Int32) (x : Int32) (M : Mem) : Int32 × Mem := match b.toNatClampNeg with
  | 10 => (x + i, M)
  | 11 => ((R 0 ko x M).1 - v, (R 0 ko x M).2)
  | 12 => ((R 1 ko x M).1 * nI 2, (R 1 ko x M).2)
  | 20 => ((R 1 0 x M).1 ^^^ nI 6, (R 1 0 x M).2)
  | 30 => R 0 0 (x * nI 3) M
  | 40 => ((R 2 0 x M).1 + (R 1 ko (nI 1) (R 2 0 x M).2).1, (R 1 ko (nI 1) (R 2 0 x M).2).2)
  | 50 => (-(R 0 1 x M).1, (R 0 1 x M).2)
  | 51 => R 1 1 (x + nI 1) M
  | 60 => R 2 2 (x - i) M
  | 70 => ((R 1 3 x M).1 + (R 0 3 (nI 2) (R 1 3 x M).2).1, (R 0 3 (nI 2) (R 1 3 x M).2).2)
  | _ => ((R 0 3 x M).1 ^^^ v, (R 0 3 x M).2)
def runM (ko : Nat) (v i : Int32) : Nat → Nat → Nat → Int32 → Mem → Int32 × Mem
  | 0 => fun _ _ _ M => (nI 0, M)
  | n + 1 => fun a k x M => withF (runM ko v i n) ko v i (bodyOf a k) x (begM M (bodyOf a k))
theorem begM_lt {M : Mem} {b : Int32} {n : Nat} (hn : M 68 1 = nI n) (h : n < 20) : begM M b = mU (mU M 69 (upd (M 69) n b)) 68 (upd (mU M 69 (upd (M 69) n b) 68) 1 (M 68 1 + nI 1)) := by
  unfold begM
  rw [hn, if_pos ((nI_ltI (by omega) (by omega)).mpr h), nI_clamp (by omega)]
theorem begM_ge {M : Mem} {b : Int32} {n : Nat} (hn : M 68 1 = nI n) (h : 20 ≤ n) (hB : n < 2 ^ 31) : begM M b = mU M 68 (upd (M 68) 1 (M 68 1 + nI 1)) := by
  unfold begM
  rw [hn, if_neg (fun z => absurd ((nI_ltI hB (by omega)).mp z) (by omega))]
/-- how many bodies have begun, at most B; own kind, v, i -/
def AcOK (B ko : Nat) (v i : Int32) (M : Mem) : Prop := (∃ n, n ≤ B ∧ M 68 1 = nI n) ∧ M 68 2 = nI ko ∧ M 68 3 = v ∧ M 68 4 = i
theorem begM_ok {B ko : Nat} {v i : Int32} {M : Mem} (h : AcOK B ko v i M) (b : Int32) : AcOK (B + 1) ko v i (begM M b) := by
  obtain ⟨⟨n, hn, e⟩, h2, h3, h4⟩ := h
  have g : ∀ j, (if M 68 1 < nI 20 then mU M 69 (upd (M 69) (M 68 1).toNatClampNeg b) else M) 68 j = M 68 j := by
    intro j
    split
    · rw [mU_ne (by omega)]
    · rfl
  unfold begM
  refine ⟨⟨n + 1, by omega, ?_⟩, ?_, ?_, ?_⟩
  · show mU _ 68 _ 68 1 = _
    rw [mU_eq, e]
    exact nI_add n 1
  · show mU _ 68 _ 68 2 = _
    rw [mU_eq]
    exact (g 2).trans h2
  · show mU _ 68 _ 68 3 = _
    rw [mU_eq]
    exact (g 3).trans h3
  · show mU _ 68 _ 68 4 = _
    rw [mU_eq]
    exact (g 4).trans h4
def keptF (M : Mem) (x : Int32) : Int32 := if x < 0 then -1 else if M 68 1 ≤ x then -1 else if nI 20 ≤ x then -1 else M 69 x.toNatClampNeg
set_option maxRecDepth 10000 in
set_option maxHeartbeats 4000000 in
theorem e_forget : ∀ (d : Nat) {h : hp_T} {M : Mem} (C : CS h), Ev d nX0_forget [.ref 68] (wi h M) (fun M1 => M1 = mU M 68 (upd (M 68) 1 (nI 0))) := by
  intro d h M C
  refine Ex.of mm_X0_forget (Nat.le_of_ble_eq_true rfl) fun w κ X hk hnm => ?_
  refine r_aload_n (pc := 0) X dX0_forget_0 rfl ?_
  refine r_iconst (pc := 1) (v := (nI 0)) X dX0_forget_1 (by decide) ?_
  refine r_putiW (pc := 2) X dX0_forget_2 tf_0_15 rfl (Or.inl rfl) (kc_68 C) ⟨rfl, rfl⟩ ?_
  refine r_vret (pc := 5) X dX0_forget_5 rfl ?_
  exact ⟨⟨_, rfl, rfl, rfl⟩, rfl⟩
set_option maxRecDepth 10000 in
set_option maxHeartbeats 4000000 in
theorem e_kept : ∀ (d : Nat) (x : Int32) {h : hp_T} {M : Mem} (C : CS h), Ep d nX0_kept [.ref 68, .int x] (wi h M) (.int (keptF M x)) := by
  intro d x h M C
  refine Ex.of mm_X0_kept (Nat.le_of_ble_eq_true rfl) fun w κ X hk hnm => ?_
  refine r_iload_n (pc := 0) X dX0_kept_0 rfl ?_
  refine r_if_lt (pc := 1) X dX0_kept_1 (tgt := 27) (by decide) (fun c1 => ?_) (fun c1 => ?_)
  · refine r_iconst (pc := 27) (v := (-1)) X dX0_kept_27 (by decide) ?_
    refine r_iret (pc := 28) X dX0_kept_28 rfl rfl ?_
    first
      | exact ⟨⟨by rw [keptF, if_pos c1], rfl⟩, rfl⟩
      | exact ⟨⟨by rw [keptF, if_neg c1, if_pos c9], rfl⟩, rfl⟩
      | exact ⟨⟨by rw [keptF, if_neg c1, if_neg c9, if_pos c15], rfl⟩, rfl⟩
      | exact ⟨⟨by rw [keptF, if_neg c1, if_neg c9, if_neg c15, ej, nI_clamp (by omega)], rfl⟩, rfl⟩
  · refine r_iload_n (pc := 4) X dX0_kept_4 rfl ?_
    refine r_aload_n (pc := 5) X dX0_kept_5 rfl ?_
    refine r_getiW (pc := 6) X dX0_kept_6 tf_0_15 rfl (kc_68 C) rfl ?_
    refine r_icmp_ge (pc := 9) X dX0_kept_9 (tgt := 27) (by decide) (fun c9 => ?_) (fun c9 => ?_)
    · refine r_iconst (pc := 27) (v := (-1)) X dX0_kept_27 (by decide) ?_
      refine r_iret (pc := 28) X dX0_kept_28 rfl rfl ?_
      first
        | exact ⟨⟨by rw [keptF, if_pos c1], rfl⟩, rfl⟩
        | exact ⟨⟨by rw [keptF, if_neg c1, if_pos c9], rfl⟩, rfl⟩
        | exact ⟨⟨by rw [keptF, if_neg c1, if_neg c9, if_pos c15], rfl⟩, rfl⟩
        | exact ⟨⟨by rw [keptF, if_neg c1, if_neg c9, if_neg c15, ej, nI_clamp (by omega)], rfl⟩, rfl⟩
    · refine r_iload_n (pc := 12) X dX0_kept_12 rfl ?_
      refine r_bipush (pc := 13) (v := (nI 20)) X dX0_kept_13 (by decide) ?_
      refine r_icmp_ge (pc := 15) X dX0_kept_15 (tgt := 27) (by decide) (fun c15 => ?_) (fun c15 => ?_)
      · refine r_iconst (pc := 27) (v := (-1)) X dX0_kept_27 (by decide) ?_
        refine r_iret (pc := 28) X dX0_kept_28 rfl rfl ?_
        first
          | exact ⟨⟨by rw [keptF, if_pos c1], rfl⟩, rfl⟩
          | exact ⟨⟨by rw [keptF, if_neg c1, if_pos c9], rfl⟩, rfl⟩
          | exact ⟨⟨by rw [keptF, if_neg c1, if_neg c9, if_pos c15], rfl⟩, rfl⟩
          | exact ⟨⟨by rw [keptF, if_neg c1, if_neg c9, if_neg c15, ej, nI_clamp (by omega)], rfl⟩, rfl⟩
      · obtain ⟨j, hj, ej⟩ := nI_of c1
        have hj20 : j < 20 := Nat.not_le.mp fun z => c15 (by rw [ej]; exact nI_le z (by omega))
        refine r_aload_n (pc := 18) X dX0_kept_18 rfl ?_
        refine r_getr (pc := 19) X dX0_kept_19 tf_0_11 rfl (kc_68 C) (rc_68_0 C) ?_
        refine r_iload_n (pc := 22) X dX0_kept_22 rfl ?_
        refine r_ialdW (pc := 23) X dX0_kept_23 (kc_69 C) ej hj20 (by omega) rfl ?_
        refine r_goto (pc := 24) X dX0_kept_24 (tgt := 28) (by decide) ?_
        refine r_iret (pc := 28) X dX0_kept_28 rfl rfl ?_
        first
          | exact ⟨⟨by rw [keptF, if_pos c1], rfl⟩, rfl⟩
          | exact ⟨⟨by rw [keptF, if_neg c1, if_pos c9], rfl⟩, rfl⟩
          | exact ⟨⟨by rw [keptF, if_neg c1, if_neg c9, if_pos c15], rfl⟩, rfl⟩
          | exact ⟨⟨by rw [keptF, if_neg c1, if_neg c9, if_neg c15, ej, nI_clamp (by omega)], rfl⟩, rfl⟩
set_option maxRecDepth 10000 in
set_option maxHeartbeats 4000000 in
theorem e_begin : ∀ (d : Nat) (b : Int32) {h : hp_T} {M : Mem} (C : CS h) {n : Nat} (hn : M 68 1 = nI n) (hB : n < 2 ^ 30), Ev d nX0_begin [.ref 68, .int b] (wi h M) (fun M1 => M1 = begM M b) := by
  intro d b h M C n hn hB
  refine Ex.of mm_X0_begin (Nat.le_of_ble_eq_true rfl) fun w κ X hk hnm => ?_
  refine r_aload_n (pc := 0) X dX0_begin_0 rfl ?_
  refine r_getiW (pc := 1) X dX0_begin_1 tf_0_15 rfl (kc_68 C) hn ?_
  refine r_bipush (pc := 4) (v := (nI 20)) X dX0_begin_4 (by decide) ?_
  refine r_icmp_geN (pc := 6) X dX0_begin_6 (tgt := 19) (by decide) (by omega) (by omega) (fun c6 => ?_) (fun c6 => ?_)
  · refine r_aload_n (pc := 19) X dX0_begin_19 rfl ?_
    refine r_dup (pc := 20) X dX0_begin_20 rfl ?_
    refine r_getiW (pc := 21) X dX0_begin_21 tf_0_15 rfl (kc_68 C) (by first | (simp (disch := omega) only [mU_ne]; rfl) | rfl) ?_
    refine r_iconst (pc := 24) (v := (nI 1)) X dX0_begin_24 (by decide) ?_
    refine r_iadd (pc := 25) X dX0_begin_25 ?_
    refine r_putiW (pc := 26) X dX0_begin_26 tf_0_15 rfl (Or.inl rfl) (kc_68 C) ⟨rfl, rfl⟩ ?_
    refine r_vret (pc := 29) X dX0_begin_29 rfl ?_
    first
      | exact ⟨⟨_, rfl, rfl, (begM_lt hn (by omega)).symm⟩, rfl⟩
      | exact ⟨⟨_, rfl, rfl, (begM_ge hn (by omega) (by omega)).symm⟩, rfl⟩
  · refine r_aload_n (pc := 9) X dX0_begin_9 rfl ?_
    refine r_getr (pc := 10) X dX0_begin_10 tf_0_11 rfl (kc_68 C) (rc_68_0 C) ?_
    refine r_aload_n (pc := 13) X dX0_begin_13 rfl ?_
    refine r_getiW (pc := 14) X dX0_begin_14 tf_0_15 rfl (kc_68 C) hn ?_
    refine r_iload_n (pc := 17) X dX0_begin_17 rfl ?_
    refine r_iastW (pc := 18) X dX0_begin_18 (kc_69 C) rfl (by omega) (by omega) ?_
    refine r_aload_n (pc := 19) X dX0_begin_19 rfl ?_
    refine r_dup (pc := 20) X dX0_begin_20 rfl ?_
    refine r_getiW (pc := 21) X dX0_begin_21 tf_0_15 rfl (kc_68 C) (by first | (simp (disch := omega) only [mU_ne]; rfl) | rfl) ?_
    refine r_iconst (pc := 24) (v := (nI 1)) X dX0_begin_24 (by decide) ?_
    refine r_iadd (pc := 25) X dX0_begin_25 ?_
    refine r_putiW (pc := 26) X dX0_begin_26 tf_0_15 rfl (Or.inl rfl) (kc_68 C) ⟨rfl, rfl⟩ ?_
    refine r_vret (pc := 29) X dX0_begin_29 rfl ?_
    first
      | exact ⟨⟨_, rfl, rfl, (begM_lt hn (by omega)).symm⟩, rfl⟩
      | exact ⟨⟨_, rfl, rfl, (begM_ge hn (by omega) (by omega)).symm⟩, rfl⟩
theorem runM_ok {ko : Nat} {v i : Int32} : ∀ (n a k : Nat) (x : Int32) (M : Mem) (B : Nat), AcOK B ko v i M → AcOK (B + 3 ^ n) ko v i (runM ko v i n a k x M).2 := by
  have up : ∀ {B B2 : Nat} {M : Mem}, AcOK B ko v i M → B ≤ B2 → AcOK B2 ko v i M := fun h hb => by
    obtain ⟨⟨n, hn, e⟩, h2⟩ := h
    exact ⟨⟨n, by omega, e⟩, h2⟩
  intro n
  induction n with
  | zero => intro a k x M B h; exact up h (by omega)
  | succ n ih =>
    intro a k x M B h
    have h0 := begM_ok h (bodyOf a k)
    have e2 : 3 ^ (n + 1) = 3 ^ n * 3 := Nat.pow_succ ..
    have e1 : 1 ≤ 3 ^ n := Nat.one_le_pow _ _ (by omega)
    show AcOK _ ko v i (withF (runM ko v i n) ko v i (bodyOf a k) x (begM M (bodyOf a k))).2
    unfold withF
    split
    · exact up h0 (by omega)
    · exact up (ih _ _ _ _ _ h0) (by omega)
    · exact up (ih _ _ _ _ _ h0) (by omega)
    · exact up (ih _ _ _ _ _ h0) (by omega)
    · exact up (ih _ _ _ _ _ h0) (by omega)
    · exact up (ih _ _ _ _ _ (ih _ _ _ _ _ h0)) (by omega)
    · exact up (ih _ _ _ _ _ h0) (by omega)
    · exact up (ih _ _ _ _ _ h0) (by omega)
    · exact up (ih _ _ _ _ _ h0) (by omega)
    · exact up (ih _ _ _ _ _ (ih _ _ _ _ _ h0)) (by omega)
    · exact up (ih _ _ _ _ _ h0) (by omega)
def RunC (h : hp_T) (ko : Nat) (v i : Int32) (n : Nat) : Prop := ∀ (d a k : Nat) (x : Int32) (M : Mem) (B : Nat), a ≤ 2 → k ≤ 6 → AcOK B ko v i M → B + 3 ^ n ≤ 1000000 → Ei (d + 2 * n + 3) nX0_run [.ref 68, .int (nI a), .int (nI k), .int x, .int (nI (12 - n))] (wi h M) (fun r M1 => r = (runM ko v i n a k x M).1 ∧ M1 = (runM ko v i n a k x M).2)
theorem body_in {a k : Nat} (ha : a ≤ 2) (hk : k ≤ 6) : bodyOf a k = nI 10 ∨ bodyOf a k = nI 11 ∨ bodyOf a k = nI 12 ∨ bodyOf a k = nI 20 ∨ bodyOf a k = nI 30 ∨ bodyOf a k = nI 40 ∨ bodyOf a k = nI 50 ∨ bodyOf a k = nI 51 ∨ bodyOf a k = nI 60 ∨ bodyOf a k = nI 70 ∨ bodyOf a k = nI 71 := by
  rcases (show a = 0 ∨ a = 1 ∨ a = 2 by omega) with rfl | rfl | rfl <;> rcases (show k = 0 ∨ k = 1 ∨ k = 2 ∨ k = 3 ∨ k = 4 ∨ k = 5 ∨ k = 6 by omega) with rfl | rfl | rfl | rfl | rfl | rfl | rfl <;> decide
set_option maxRecDepth 10000 in
set_option maxHeartbeats 4000000 in
theorem e_within : ∀ (d n : Nat) (b x : Int32) {h : hp_T} {M : Mem} {ko B : Nat} {v i : Int32} (C : CS h) (ih : RunC h ko v i n) (hko : ko ≤ 6) (hok : AcOK B ko v i M) (hB : B + 3 ^ n + 3 ^ n ≤ 1000000) (hb : b = nI 10 ∨ b = nI 11 ∨ b = nI 12 ∨ b = nI 20 ∨ b = nI 30 ∨ b = nI 40 ∨ b = nI 50 ∨ b = nI 51 ∨ b = nI 60 ∨ b = nI 70 ∨ b = nI 71), Ei (d + 2 * n + 4) nX0_within [.ref 68, .int b, .int x, .int (nI (12 - n))] (wi h M) (fun r M1 => r = (withF (runM ko v i n) ko v i b x M).1 ∧ M1 = (withF (runM ko v i n) ko v i b x M).2) := by
  intro d n b x h M ko B v i C ih hko hok hB hb
  have e1 : 1 ≤ 3 ^ n := Nat.one_le_pow _ _ (by omega)
  have ok1 := fun a k y => runM_ok n a k y M B hok
  rcases hb with rfl | rfl | rfl | rfl | rfl | rfl | rfl | rfl | rfl | rfl | rfl
  · refine Ex.of mm_X0_within (Nat.le_of_ble_eq_true rfl) fun w κ X hk hnm => ?_
    refine r_iload_n (pc := 0) X dX0_within_0 rfl ?_
    refine r_lookup (pc := 1) (tgt := 92) (off := 91) X dX0_within_1 (by decide) (by rw [(rfl : nI 10 = nI 10)]; decide) (by decide) ?_
    refine r_iload_n (pc := 92) X dX0_within_92 rfl ?_
    refine r_aload_n (pc := 93) X dX0_within_93 rfl ?_
    refine r_getiW (pc := 94) X dX0_within_94 tf_0_32 rfl (kc_68 C) hok.2.2.2 ?_
    refine r_iadd (pc := 97) X dX0_within_97 ?_
    refine r_iret (pc := 98) X dX0_within_98 rfl rfl ?_
    exact ⟨⟨_, _, rfl, rfl, rfl, rfl⟩, rfl⟩
  · refine Ex.of mm_X0_within (Nat.le_of_ble_eq_true rfl) fun w κ X hk hnm => ?_
    refine r_iload_n (pc := 0) X dX0_within_0 rfl ?_
    refine r_lookup (pc := 1) (tgt := 99) (off := 98) X dX0_within_1 (by decide) (by rw [(rfl : nI 11 = nI 11)]; decide) (by decide) ?_
    refine r_aload_n (pc := 99) X dX0_within_99 rfl ?_
    refine r_iconst (pc := 100) (v := (nI 0)) X dX0_within_100 (by decide) ?_
    refine r_aload_n (pc := 101) X dX0_within_101 rfl ?_
    refine r_getiW (pc := 102) X dX0_within_102 tf_0_24 rfl (kc_68 C) hok.2.1 ?_
    refine r_iload_n (pc := 105) X dX0_within_105 rfl ?_
    refine r_iload_n (pc := 106) X dX0_within_106 rfl ?_
    refine r_c0_4IW (pc := 107) X rfl dX0_within_107 tc_0_35 mm_X0_run (kc_68 C) rfl rfl (ih d 0 ko x _ _ (by omega) (by omega) (hok) (by omega)) (Nat.le_of_ble_eq_true rfl) (fun r107 M107 q107 => ?_)
    refine r_aload_n (pc := 110) X dX0_within_110 rfl ?_
    refine r_getiW (pc := 111) X dX0_within_111 tf_0_30 rfl (kc_68 C) (show _ = v by rw [q107.2]; exact (ok1 0 ko x).2.2.1) ?_
    refine r_isub (pc := 114) X dX0_within_114 ?_
    refine r_iret (pc := 115) X dX0_within_115 rfl rfl ?_
    refine ⟨⟨_, _, rfl, rfl, ?_, ?_⟩, rfl⟩
    · rw [q107.1]
      rfl
    · rw [q107.2]
      rfl
  · refine Ex.of mm_X0_within (Nat.le_of_ble_eq_true rfl) fun w κ X hk hnm => ?_
    refine r_iload_n (pc := 0) X dX0_within_0 rfl ?_
    refine r_lookup (pc := 1) (tgt := 116) (off := 115) X dX0_within_1 (by decide) (by rw [(rfl : nI 12 = nI 12)]; decide) (by decide) ?_
    refine r_aload_n (pc := 116) X dX0_within_116 rfl ?_
    refine r_iconst (pc := 117) (v := (nI 1)) X dX0_within_117 (by decide) ?_
    refine r_aload_n (pc := 118) X dX0_within_118 rfl ?_
    refine r_getiW (pc := 119) X dX0_within_119 tf_0_24 rfl (kc_68 C) hok.2.1 ?_
    refine r_iload_n (pc := 122) X dX0_within_122 rfl ?_
    refine r_iload_n (pc := 123) X dX0_within_123 rfl ?_
    refine r_c0_4IW (pc := 124) X rfl dX0_within_124 tc_0_35 mm_X0_run (kc_68 C) rfl rfl (ih d 1 ko x _ _ (by omega) (by omega) (hok) (by omega)) (Nat.le_of_ble_eq_true rfl) (fun r124 M124 q124 => ?_)
    refine r_iconst (pc := 127) (v := (nI 2)) X dX0_within_127 (by decide) ?_
    refine r_imul (pc := 128) X dX0_within_128 ?_
    refine r_iret (pc := 129) X dX0_within_129 rfl rfl ?_
    refine ⟨⟨_, _, rfl, rfl, ?_, ?_⟩, rfl⟩
    · rw [q124.1]
      rfl
    · rw [q124.2]
      rfl
  · refine Ex.of mm_X0_within (Nat.le_of_ble_eq_true rfl) fun w κ X hk hnm => ?_
    refine r_iload_n (pc := 0) X dX0_within_0 rfl ?_
    refine r_lookup (pc := 1) (tgt := 130) (off := 129) X dX0_within_1 (by decide) (by rw [(rfl : nI 20 = nI 20)]; decide) (by decide) ?_
    refine r_aload_n (pc := 130) X dX0_within_130 rfl ?_
    refine r_iconst (pc := 131) (v := (nI 1)) X dX0_within_131 (by decide) ?_
    refine r_iconst (pc := 132) (v := (nI 0)) X dX0_within_132 (by decide) ?_
    refine r_iload_n (pc := 133) X dX0_within_133 rfl ?_
    refine r_iload_n (pc := 134) X dX0_within_134 rfl ?_
    refine r_c0_4IW (pc := 135) X rfl dX0_within_135 tc_0_35 mm_X0_run (kc_68 C) rfl rfl (ih d 1 0 x _ _ (by omega) (by omega) (hok) (by omega)) (Nat.le_of_ble_eq_true rfl) (fun r135 M135 q135 => ?_)
    refine r_bipush (pc := 138) (v := (nI 6)) X dX0_within_138 (by decide) ?_
    refine r_ixor (pc := 140) X dX0_within_140 ?_
    refine r_iret (pc := 141) X dX0_within_141 rfl rfl ?_
    refine ⟨⟨_, _, rfl, rfl, ?_, ?_⟩, rfl⟩
    · rw [q135.1]
      rfl
    · rw [q135.2]
      rfl
  · refine Ex.of mm_X0_within (Nat.le_of_ble_eq_true rfl) fun w κ X hk hnm => ?_
    refine r_iload_n (pc := 0) X dX0_within_0 rfl ?_
    refine r_lookup (pc := 1) (tgt := 142) (off := 141) X dX0_within_1 (by decide) (by rw [(rfl : nI 30 = nI 30)]; decide) (by decide) ?_
    refine r_aload_n (pc := 142) X dX0_within_142 rfl ?_
    refine r_iconst (pc := 143) (v := (nI 0)) X dX0_within_143 (by decide) ?_
    refine r_iconst (pc := 144) (v := (nI 0)) X dX0_within_144 (by decide) ?_
    refine r_iload_n (pc := 145) X dX0_within_145 rfl ?_
    refine r_iconst (pc := 146) (v := (nI 3)) X dX0_within_146 (by decide) ?_
    refine r_imul (pc := 147) X dX0_within_147 ?_
    refine r_iload_n (pc := 148) X dX0_within_148 rfl ?_
    refine r_c0_4IW (pc := 149) X rfl dX0_within_149 tc_0_35 mm_X0_run (kc_68 C) rfl rfl (ih d 0 0 _ _ _ (by omega) (by omega) (hok) (by omega)) (Nat.le_of_ble_eq_true rfl) (fun r149 M149 q149 => ?_)
    refine r_iret (pc := 152) X dX0_within_152 rfl rfl ?_
    refine ⟨⟨_, _, rfl, rfl, ?_, ?_⟩, rfl⟩
    · rw [q149.1]
      rfl
    · rw [q149.2]
      rfl
  · refine Ex.of mm_X0_within (Nat.le_of_ble_eq_true rfl) fun w κ X hk hnm => ?_
    refine r_iload_n (pc := 0) X dX0_within_0 rfl ?_
    refine r_lookup (pc := 1) (tgt := 153) (off := 152) X dX0_within_1 (by decide) (by rw [(rfl : nI 40 = nI 40)]; decide) (by decide) ?_
    refine r_aload_n (pc := 153) X dX0_within_153 rfl ?_
    refine r_iconst (pc := 154) (v := (nI 2)) X dX0_within_154 (by decide) ?_
    refine r_iconst (pc := 155) (v := (nI 0)) X dX0_within_155 (by decide) ?_
    refine r_iload_n (pc := 156) X dX0_within_156 rfl ?_
    refine r_iload_n (pc := 157) X dX0_within_157 rfl ?_
    refine r_c0_4IW (pc := 158) X rfl dX0_within_158 tc_0_35 mm_X0_run (kc_68 C) rfl rfl (ih d 2 0 x _ _ (by omega) (by omega) (hok) (by omega)) (Nat.le_of_ble_eq_true rfl) (fun r158 M158 q158 => ?_)
    refine r_aload_n (pc := 161) X dX0_within_161 rfl ?_
    refine r_iconst (pc := 162) (v := (nI 1)) X dX0_within_162 (by decide) ?_
    refine r_aload_n (pc := 163) X dX0_within_163 rfl ?_
    refine r_getiW (pc := 164) X dX0_within_164 tf_0_24 rfl (kc_68 C) (show _ = nI ko by rw [q158.2]; exact (ok1 2 0 x).2.1) ?_
    refine r_iconst (pc := 167) (v := (nI 1)) X dX0_within_167 (by decide) ?_
    refine r_iload_n (pc := 168) X dX0_within_168 rfl ?_
    refine r_c0_4IW (pc := 169) X rfl dX0_within_169 tc_0_35 mm_X0_run (kc_68 C) rfl rfl (ih d 1 ko _ _ _ (by omega) (by omega) (by rw [q158.2]; exact ok1 2 0 x) (by omega)) (Nat.le_of_ble_eq_true rfl) (fun r169 M169 q169 => ?_)
    refine r_iadd (pc := 172) X dX0_within_172 ?_
    refine r_iret (pc := 173) X dX0_within_173 rfl rfl ?_
    refine ⟨⟨_, _, rfl, rfl, ?_, ?_⟩, rfl⟩
    · rw [q169.1, q158.1, q158.2]
      rfl
    · rw [q169.2, q158.2]
      rfl
  · refine Ex.of mm_X0_within (Nat.le_of_ble_eq_true rfl) fun w κ X hk hnm => ?_
    refine r_iload_n (pc := 0) X dX0_within_0 rfl ?_
    refine r_lookup (pc := 1) (tgt := 174) (off := 173) X dX0_within_1 (by decide) (by rw [(rfl : nI 50 = nI 50)]; decide) (by decide) ?_
    refine r_aload_n (pc := 174) X dX0_within_174 rfl ?_
    refine r_iconst (pc := 175) (v := (nI 0)) X dX0_within_175 (by decide) ?_
    refine r_iconst (pc := 176) (v := (nI 1)) X dX0_within_176 (by decide) ?_
    refine r_iload_n (pc := 177) X dX0_within_177 rfl ?_
    refine r_iload_n (pc := 178) X dX0_within_178 rfl ?_
    refine r_c0_4IW (pc := 179) X rfl dX0_within_179 tc_0_35 mm_X0_run (kc_68 C) rfl rfl (ih d 0 1 x _ _ (by omega) (by omega) (hok) (by omega)) (Nat.le_of_ble_eq_true rfl) (fun r179 M179 q179 => ?_)
    refine r_ineg (pc := 182) X dX0_within_182 ?_
    refine r_iret (pc := 183) X dX0_within_183 rfl rfl ?_
    refine ⟨⟨_, _, rfl, rfl, ?_, ?_⟩, rfl⟩
    · rw [q179.1]
      rfl
    · rw [q179.2]
      rfl
  · refine Ex.of mm_X0_within (Nat.le_of_ble_eq_true rfl) fun w κ X hk hnm => ?_
    refine r_iload_n (pc := 0) X dX0_within_0 rfl ?_
    refine r_lookup (pc := 1) (tgt := 184) (off := 183) X dX0_within_1 (by decide) (by rw [(rfl : nI 51 = nI 51)]; decide) (by decide) ?_
    refine r_aload_n (pc := 184) X dX0_within_184 rfl ?_
    refine r_iconst (pc := 185) (v := (nI 1)) X dX0_within_185 (by decide) ?_
    refine r_iconst (pc := 186) (v := (nI 1)) X dX0_within_186 (by decide) ?_
    refine r_iload_n (pc := 187) X dX0_within_187 rfl ?_
    refine r_iconst (pc := 188) (v := (nI 1)) X dX0_within_188 (by decide) ?_
    refine r_iadd (pc := 189) X dX0_within_189 ?_
    refine r_iload_n (pc := 190) X dX0_within_190 rfl ?_
    refine r_c0_4IW (pc := 191) X rfl dX0_within_191 tc_0_35 mm_X0_run (kc_68 C) rfl rfl (ih d 1 1 _ _ _ (by omega) (by omega) (hok) (by omega)) (Nat.le_of_ble_eq_true rfl) (fun r191 M191 q191 => ?_)
    refine r_iret (pc := 194) X dX0_within_194 rfl rfl ?_
    refine ⟨⟨_, _, rfl, rfl, ?_, ?_⟩, rfl⟩
    · rw [q191.1]
      rfl
    · rw [q191.2]
      rfl
  · refine Ex.of mm_X0_within (Nat.le_of_ble_eq_true rfl) fun w κ X hk hnm => ?_
    refine r_iload_n (pc := 0) X dX0_within_0 rfl ?_
    refine r_lookup (pc := 1) (tgt := 195) (off := 194) X dX0_within_1 (by decide) (by rw [(rfl : nI 60 = nI 60)]; decide) (by decide) ?_
    refine r_aload_n (pc := 195) X dX0_within_195 rfl ?_
    refine r_iconst (pc := 196) (v := (nI 2)) X dX0_within_196 (by decide) ?_
    refine r_iconst (pc := 197) (v := (nI 2)) X dX0_within_197 (by decide) ?_
    refine r_iload_n (pc := 198) X dX0_within_198 rfl ?_
    refine r_aload_n (pc := 199) X dX0_within_199 rfl ?_
    refine r_getiW (pc := 200) X dX0_within_200 tf_0_32 rfl (kc_68 C) hok.2.2.2 ?_
    refine r_isub (pc := 203) X dX0_within_203 ?_
    refine r_iload_n (pc := 204) X dX0_within_204 rfl ?_
    refine r_c0_4IW (pc := 205) X rfl dX0_within_205 tc_0_35 mm_X0_run (kc_68 C) rfl rfl (ih d 2 2 _ _ _ (by omega) (by omega) (hok) (by omega)) (Nat.le_of_ble_eq_true rfl) (fun r205 M205 q205 => ?_)
    refine r_iret (pc := 208) X dX0_within_208 rfl rfl ?_
    refine ⟨⟨_, _, rfl, rfl, ?_, ?_⟩, rfl⟩
    · rw [q205.1]
      rfl
    · rw [q205.2]
      rfl
  · refine Ex.of mm_X0_within (Nat.le_of_ble_eq_true rfl) fun w κ X hk hnm => ?_
    refine r_iload_n (pc := 0) X dX0_within_0 rfl ?_
    refine r_lookup (pc := 1) (tgt := 209) (off := 208) X dX0_within_1 (by decide) (by rw [(rfl : nI 70 = nI 70)]; decide) (by decide) ?_
    refine r_aload_n (pc := 209) X dX0_within_209 rfl ?_
    refine r_iconst (pc := 210) (v := (nI 1)) X dX0_within_210 (by decide) ?_
    refine r_iconst (pc := 211) (v := (nI 3)) X dX0_within_211 (by decide) ?_
    refine r_iload_n (pc := 212) X dX0_within_212 rfl ?_
    refine r_iload_n (pc := 213) X dX0_within_213 rfl ?_
    refine r_c0_4IW (pc := 214) X rfl dX0_within_214 tc_0_35 mm_X0_run (kc_68 C) rfl rfl (ih d 1 3 x _ _ (by omega) (by omega) (hok) (by omega)) (Nat.le_of_ble_eq_true rfl) (fun r214 M214 q214 => ?_)
    refine r_aload_n (pc := 217) X dX0_within_217 rfl ?_
    refine r_iconst (pc := 218) (v := (nI 0)) X dX0_within_218 (by decide) ?_
    refine r_iconst (pc := 219) (v := (nI 3)) X dX0_within_219 (by decide) ?_
    refine r_iconst (pc := 220) (v := (nI 2)) X dX0_within_220 (by decide) ?_
    refine r_iload_n (pc := 221) X dX0_within_221 rfl ?_
    refine r_c0_4IW (pc := 222) X rfl dX0_within_222 tc_0_35 mm_X0_run (kc_68 C) rfl rfl (ih d 0 3 _ _ _ (by omega) (by omega) (by rw [q214.2]; exact ok1 1 3 x) (by omega)) (Nat.le_of_ble_eq_true rfl) (fun r222 M222 q222 => ?_)
    refine r_iadd (pc := 225) X dX0_within_225 ?_
    refine r_iret (pc := 226) X dX0_within_226 rfl rfl ?_
    refine ⟨⟨_, _, rfl, rfl, ?_, ?_⟩, rfl⟩
    · rw [q222.1, q214.1, q214.2]
      rfl
    · rw [q222.2, q214.2]
      rfl
  · refine Ex.of mm_X0_within (Nat.le_of_ble_eq_true rfl) fun w κ X hk hnm => ?_
    refine r_iload_n (pc := 0) X dX0_within_0 rfl ?_
    refine r_lookup (pc := 1) (tgt := 227) (off := 226) X dX0_within_1 (by decide) (by rw [(rfl : nI 71 = nI 71)]; decide) (by decide) ?_
    refine r_aload_n (pc := 227) X dX0_within_227 rfl ?_
    refine r_iconst (pc := 228) (v := (nI 0)) X dX0_within_228 (by decide) ?_
    refine r_iconst (pc := 229) (v := (nI 3)) X dX0_within_229 (by decide) ?_
    refine r_iload_n (pc := 230) X dX0_within_230 rfl ?_
    refine r_iload_n (pc := 231) X dX0_within_231 rfl ?_
    refine r_c0_4IW (pc := 232) X rfl dX0_within_232 tc_0_35 mm_X0_run (kc_68 C) rfl rfl (ih d 0 3 x _ _ (by omega) (by omega) (hok) (by omega)) (Nat.le_of_ble_eq_true rfl) (fun r232 M232 q232 => ?_)
    refine r_aload_n (pc := 235) X dX0_within_235 rfl ?_
    refine r_getiW (pc := 236) X dX0_within_236 tf_0_30 rfl (kc_68 C) (show _ = v by rw [q232.2]; exact (ok1 0 3 x).2.2.1) ?_
    refine r_ixor (pc := 239) X dX0_within_239 ?_
    refine r_iret (pc := 240) X dX0_within_240 rfl rfl ?_
    refine ⟨⟨_, _, rfl, rfl, ?_, ?_⟩, rfl⟩
    · rw [q232.1]
      rfl
    · rw [q232.2]
      rfl
set_option maxRecDepth 10000 in
set_option maxHeartbeats 4000000 in
theorem e_run {h : hp_T} {ko : Nat} {v i : Int32} (C : CS h) (hko : ko ≤ 6) : ∀ n, n ≤ 12 → RunC h ko v i n := by
  intro n
  induction n with
  | zero =>
    intro _ d a k x M B ha hk6 hok hB
    refine Ex.of mm_X0_run (Nat.le_of_ble_eq_true rfl) fun w κ X hk hnm => ?_
    refine r_iload (pc := 0) X dX0_run_0 rfl ?_
    refine r_bipush (pc := 2) (v := (nI 12)) X dX0_run_2 (by decide) ?_
    refine r_icmp_ltN (pc := 4) X dX0_run_4 (tgt := 9) (by decide) (by omega) (by omega) (fun c4 => ?_) (fun c4 => ?_)
    · exact absurd c4 (by omega)
    · refine r_iconst (pc := 7) (v := (nI 0)) X dX0_run_7 (by decide) ?_
      refine r_iret (pc := 8) X dX0_run_8 rfl rfl ?_
      exact ⟨⟨_, _, rfl, rfl, rfl, rfl⟩, rfl⟩
  | succ n ih =>
    intro hn d a k x M B ha hk6 hok hB
    have e2 : 3 ^ (n + 1) = 3 ^ n * 3 := Nat.pow_succ ..
    have e1 : 1 ≤ 3 ^ n := Nat.one_le_pow _ _ (by omega)
    obtain ⟨m, hm, em⟩ := hok.1
    refine Ex.of mm_X0_run (Nat.le_of_ble_eq_true rfl) fun w κ X hk hnm => ?_
    refine r_iload (pc := 0) X dX0_run_0 rfl ?_
    refine r_bipush (pc := 2) (v := (nI 12)) X dX0_run_2 (by decide) ?_
    refine r_icmp_ltN (pc := 4) X dX0_run_4 (tgt := 9) (by decide) (by omega) (by omega) (fun c4 => ?_) (fun c4 => ?_)
    · refine r_bodies (pc := 9) X dX0_run_9 ts_0_39 ?_
      refine r_iload_n (pc := 12) X dX0_run_12 rfl ?_
      refine r_bipush (pc := 13) (v := (nI 7)) X dX0_run_13 (by decide) ?_
      refine r_imul (pc := 15) X dX0_run_15 ?_
      refine r_iload_n (pc := 16) X dX0_run_16 rfl ?_
      refine r_iadd (pc := 17) X dX0_run_17 ?_
      refine r_top (show nI a * nI 7 + nI k = nI (a * 7 + k) by rw [pk_mul, nI_add]) ?_
      refine r_bodyld (pc := 18) X dX0_run_18 rfl (by omega) ?_
      refine r_istore (pc := 19) X dX0_run_19 (Nat.le_of_ble_eq_true rfl) ?_
      refine r_aload_n (pc := 21) X dX0_run_21 rfl ?_
      refine r_iload (pc := 22) X dX0_run_22 rfl ?_
      refine r_c0_1VW (pc := 24) X rfl dX0_run_24 tc_0_42 mm_X0_begin (kc_68 C) rfl rfl (e_begin (d + 2 * n + 4) (bodyOf a k) C em (by omega)) (Nat.le_of_ble_eq_true rfl) (fun M24 q24 => ?_)
      refine r_aload_n (pc := 27) X dX0_run_27 rfl ?_
      refine r_iload (pc := 28) X dX0_run_28 rfl ?_
      refine r_iload_n (pc := 30) X dX0_run_30 rfl ?_
      refine r_iload (pc := 31) X dX0_run_31 rfl ?_
      refine r_iconst (pc := 33) (v := (nI 1)) X dX0_run_33 (by decide) ?_
      refine r_iadd (pc := 34) X dX0_run_34 ?_
      refine r_top (show nI (12 - (n + 1)) + nI 1 = nI (12 - n) by rw [nI_add]; congr 1; omega) ?_
      refine r_c0_3IW (pc := 35) X rfl dX0_run_35 tc_0_46 mm_X0_within (kc_68 C) rfl rfl (e_within d n (bodyOf a k) x C (ih (by omega)) hko (by rw [q24]; exact begM_ok hok _) (by omega) (body_in ha hk6)) (Nat.le_of_ble_eq_true rfl) (fun r35 M35 q35 => ?_)
      refine r_iret (pc := 38) X dX0_run_38 rfl rfl ?_
      exact ⟨⟨_, _, rfl, rfl, by rw [q35.1, q24]; rfl, by rw [q35.2, q24]; rfl⟩, rfl⟩
    · exact absurd (by omega) c4
def prepM (M : Mem) (k v i : Int32) : Mem := mU (mU (mU M 68 (upd (M 68) 2 k)) 68 (upd (mU M 68 (upd (M 68) 2 k) 68) 3 v)) 68 (upd (mU (mU M 68 (upd (M 68) 2 k)) 68 (upd (mU M 68 (upd (M 68) 2 k) 68) 3 v) 68) 4 i)
theorem prepM_ok {M : Mem} {k : Nat} {v i : Int32} (h : M 68 1 = nI 0) : AcOK 0 k v i (prepM M (nI k) v i) := by
  unfold prepM
  refine ⟨⟨0, by omega, ?_⟩, ?_, ?_, ?_⟩
  all_goals simp only [mU_eq]
  · exact h
  all_goals rfl
set_option maxRecDepth 10000 in
set_option maxHeartbeats 4000000 in
theorem e_perform : ∀ (d p a k : Nat) (x : Int32) {h : hp_T} {M : Mem} (C : CS h) (hp : p < 6) (hk6 : k ≤ 6) (ha : a ≤ 2) (hkk : M 26 p = nI k) (h0 : M 68 1 = nI 0), Ei (d + 28) nX0_perform [.ref 68, .ref 25, .int (nI p), .int (nI a), .int x] (wi h M) (fun r M1 => r = (runM k (M 27 p) (nI p) 12 a k x (prepM M (nI k) (M 27 p) (nI p))).1 ∧ M1 = (runM k (M 27 p) (nI p) 12 a k x (prepM M (nI k) (M 27 p) (nI p))).2) := by
  intro d p a k x h M C hp hk6 ha hkk h0
  refine Ex.of mm_X0_perform (Nat.le_of_ble_eq_true rfl) fun w κ X hk hnm => ?_
  refine r_aload_n (pc := 0) X dX0_perform_0 rfl ?_
  refine r_aload_n (pc := 1) X dX0_perform_1 rfl ?_
  refine r_getr (pc := 2) X dX0_perform_2 tf_0_19 rfl (kc_25 C) (rc_25_0 C) ?_
  refine r_iload_n (pc := 5) X dX0_perform_5 rfl ?_
  refine r_ialdW (pc := 6) X dX0_perform_6 (kc_26 C) rfl hp (by omega) hkk ?_
  refine r_putiW (pc := 7) X dX0_perform_7 tf_0_24 rfl (Or.inl rfl) (kc_68 C) ⟨rfl, rfl⟩ ?_
  refine r_aload_n (pc := 10) X dX0_perform_10 rfl ?_
  refine r_aload_n (pc := 11) X dX0_perform_11 rfl ?_
  refine r_getr (pc := 12) X dX0_perform_12 tf_0_27 rfl (kc_25 C) (rc_25_1 C) ?_
  refine r_iload_n (pc := 15) X dX0_perform_15 rfl ?_
  refine r_ialdW (pc := 16) X dX0_perform_16 (kc_27 C) rfl hp (by omega) (by simp (disch := omega) only [mU_ne]; rfl) ?_
  refine r_putiW (pc := 17) X dX0_perform_17 tf_0_30 rfl (Or.inl rfl) (kc_68 C) ⟨rfl, rfl⟩ ?_
  refine r_aload_n (pc := 20) X dX0_perform_20 rfl ?_
  refine r_iload_n (pc := 21) X dX0_perform_21 rfl ?_
  refine r_putiW (pc := 22) X dX0_perform_22 tf_0_32 rfl (Or.inl rfl) (kc_68 C) ⟨rfl, rfl⟩ ?_
  refine r_aload_n (pc := 25) X dX0_perform_25 rfl ?_
  refine r_iload_n (pc := 26) X dX0_perform_26 rfl ?_
  refine r_aload_n (pc := 27) X dX0_perform_27 rfl ?_
  refine r_getiW (pc := 28) X dX0_perform_28 tf_0_24 rfl (kc_68 C) (prepM_ok h0).2.1 ?_
  refine r_iload (pc := 31) X dX0_perform_31 rfl ?_
  refine r_iconst (pc := 33) (v := (nI 0)) X dX0_perform_33 (by decide) ?_
  refine r_c0_4IW (pc := 34) X rfl dX0_perform_34 tc_0_35 mm_X0_run (kc_68 C) rfl rfl (e_run C hk6 12 (by omega) d a k x (prepM M (nI k) (M 27 p) (nI p)) 0 ha hk6 (prepM_ok h0) (by omega)) (Nat.le_of_ble_eq_true rfl) (fun r34 M34 q34 => ?_)
  refine r_iret (pc := 37) X dX0_perform_37 rfl rfl ?_
  exact ⟨⟨_, _, rfl, rfl, q34.1, q34.2⟩, rfl⟩
