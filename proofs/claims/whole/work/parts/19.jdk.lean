/-! the JDK's methods on literals, and on rows of ints -/
theorem shr_0 (x : Int32) : x >>> ((0 : Int32) &&& 31) = x := by
  have e : (0 : Int32) &&& 31 = 0 := by decide
  rw [e]
  exact Int32.shiftRight_zero
theorem sBy_31 : ∀ i, i < 7 → (sBy i).length < 2 ^ 31 := by decide
theorem sBy_0 : ∀ i, i < 7 → 0 < (sBy i).length := by decide
theorem sBy_char : ∀ i, i < 7 → ∀ j, j < (sBy i).length → (((sBy i).getD j 0 &&& nI 255).toUInt32 % 65536).toInt32 = (sBy i).getD j 0 := by decide +kernel
theorem sBy_nar : ∀ i, i < 7 → ∀ j, j < (sBy i).length → narrow .char (.int ((sBy i).getD j 0)) = .int ((sBy i).getD j 0) := by decide +kernel
set_option maxRecDepth 10000 in
set_option maxHeartbeats 4000000 in
theorem j_latin : ∀ (d : Nat) {h : hp_T} {i : Nat} (hi : i < 7), Ep d nJ0_isLatin1_aae02 [.ref (3 + i)] h (.int (nI 1)) := by
  intro d h i hi
  refine Ex.of mm_J0_isLatin1_aae02 (Nat.le_of_ble_eq_true rfl) fun w κ X hk hnm => ?_
  refine r_compact (pc := 0) X dJ0_isLatin1_aae02_0 ts_10_38 ?_
  refine r_if_eq (pc := 3) X dJ0_isLatin1_aae02_3 (tgt := 17) (by decide) (fun c3 => ?_) (fun c3 => ?_)
  · refine r_iconst (pc := 17) (v := (nI 0)) X dJ0_isLatin1_aae02_17 (by decide) ?_
    refine r_iret (pc := 18) X dJ0_isLatin1_aae02_18 rfl rfl ?_
    first
      | exact absurd c3 (by decide)
      | exact absurd c10 (by decide)
      | exact ⟨⟨rfl, rfl⟩, rfl⟩
  · refine r_aload_n (pc := 6) X dJ0_isLatin1_aae02_6 rfl ?_
    refine r_strcoder (pc := 7) X dJ0_isLatin1_aae02_7 (by omega) ts_10_15 ?_
    refine r_if_ne (pc := 10) X dJ0_isLatin1_aae02_10 (tgt := 17) (by decide) (fun c10 => ?_) (fun c10 => ?_)
    · refine r_iconst (pc := 17) (v := (nI 0)) X dJ0_isLatin1_aae02_17 (by decide) ?_
      refine r_iret (pc := 18) X dJ0_isLatin1_aae02_18 rfl rfl ?_
      first
        | exact absurd c3 (by decide)
        | exact absurd c10 (by decide)
        | exact ⟨⟨rfl, rfl⟩, rfl⟩
    · refine r_iconst (pc := 13) (v := (nI 1)) X dJ0_isLatin1_aae02_13 (by decide) ?_
      refine r_goto (pc := 14) X dJ0_isLatin1_aae02_14 (tgt := 18) (by decide) ?_
      refine r_iret (pc := 18) X dJ0_isLatin1_aae02_18 rfl rfl ?_
      first
        | exact absurd c3 (by decide)
        | exact absurd c10 (by decide)
        | exact ⟨⟨rfl, rfl⟩, rfl⟩
set_option maxRecDepth 10000 in
set_option maxHeartbeats 4000000 in
theorem j_coder : ∀ (d : Nat) {h : hp_T} {i : Nat} (hi : i < 7), Ep d nJ0_coder_7d493 [.ref (3 + i)] h (.int 0) := by
  intro d h i hi
  refine Ex.of mm_J0_coder_7d493 (Nat.le_of_ble_eq_true rfl) fun w κ X hk hnm => ?_
  refine r_compact (pc := 0) X dJ0_coder_7d493_0 ts_10_38 ?_
  refine r_if_eq (pc := 3) X dJ0_coder_7d493_3 (tgt := 13) (by decide) (fun c3 => ?_) (fun c3 => ?_)
  · refine r_iconst (pc := 13) (v := (nI 1)) X dJ0_coder_7d493_13 (by decide) ?_
    refine r_iret (pc := 14) X dJ0_coder_7d493_14 rfl rfl ?_
    first
      | exact absurd c3 (by decide)
      | exact ⟨⟨rfl, rfl⟩, rfl⟩
  · refine r_aload_n (pc := 6) X dJ0_coder_7d493_6 rfl ?_
    refine r_strcoder (pc := 7) X dJ0_coder_7d493_7 (by omega) ts_10_15 ?_
    refine r_goto (pc := 10) X dJ0_coder_7d493_10 (tgt := 14) (by decide) ?_
    refine r_iret (pc := 14) X dJ0_coder_7d493_14 rfl rfl ?_
    first
      | exact absurd c3 (by decide)
      | exact ⟨⟨rfl, rfl⟩, rfl⟩
set_option maxRecDepth 10000 in
set_option maxHeartbeats 4000000 in
theorem j_length : ∀ (d : Nat) {h : hp_T} {i : Nat} (hi : i < 7), Ep (d + 1) nJ0_length_8abf5 [.ref (3 + i)] h (.int (nI (sBy i).length)) := by
  intro d h i hi
  refine Ex.of mm_J0_length_8abf5 (Nat.le_of_ble_eq_true rfl) fun w κ X hk hnm => ?_
  refine r_aload_n (pc := 0) X dJ0_length_8abf5_0 rfl ?_
  refine r_strval (pc := 1) X dJ0_length_8abf5_1 (by omega) ts_10_9 ?_
  refine r_strlen (pc := 4) X dJ0_length_8abf5_4 (by omega) ?_
  refine r_aload_n (pc := 5) X dJ0_length_8abf5_5 rfl ?_
  refine r_cS_0P (pc := 6) X rfl dJ0_length_8abf5_6 tc_10_335 mm_J0_coder_7d493 (by first | exact hi | decide) rfl (j_coder d hi) (Nat.le_of_ble_eq_true rfl) ?_
  refine r_ishr (pc := 9) X dJ0_length_8abf5_9 ?_
  refine r_iret (pc := 10) X dJ0_length_8abf5_10 rfl rfl ?_
  exact ⟨⟨by rw [shr_0], rfl⟩, rfl⟩
set_option maxRecDepth 10000 in
set_option maxHeartbeats 4000000 in
theorem j_pre : ∀ (d : Nat) {h : hp_T} {j n : Nat} (hj : j < n) (hn : n < 2 ^ 31), Ep d nJ3_checkIndex_8e157 [.int (nI j), .int (nI n), .ref 19] h (.int (nI j)) := by
  intro d h j n hj hn
  refine Ex.of mm_J3_checkIndex_8e157 (Nat.le_of_ble_eq_true rfl) fun w κ X hk hnm => ?_
  refine r_iload_n (pc := 0) X dJ3_checkIndex_8e157_0 rfl ?_
  refine r_if_lt (pc := 1) X dJ3_checkIndex_8e157_1 (tgt := 9) (by decide) (fun c1 => ?_) (fun c1 => ?_)
  · exact absurd c1 (nI_pos (by omega))
  · refine r_iload_n (pc := 4) X dJ3_checkIndex_8e157_4 rfl ?_
    refine r_iload_n (pc := 5) X dJ3_checkIndex_8e157_5 rfl ?_
    refine r_icmp_lt (pc := 6) X dJ3_checkIndex_8e157_6 (tgt := 16) (by decide) (fun c6 => ?_) (fun c6 => ?_)
    · refine r_iload_n (pc := 16) X dJ3_checkIndex_8e157_16 rfl ?_
      refine r_iret (pc := 17) X dJ3_checkIndex_8e157_17 rfl rfl ?_
      exact ⟨⟨rfl, rfl⟩, rfl⟩
    · exact absurd (nI_lt hj hn) c6
set_option maxRecDepth 10000 in
set_option maxHeartbeats 4000000 in
theorem j_check : ∀ (d : Nat) {h : hp_T} {j n : Nat} (hj : j < n) (hn : n < 2 ^ 31), Ex (d + 1) nJ0_checkIndex_df160 [.int (nI j), .int (nI n)] h 0 0 (fun v2 h2 => v2 = none ∧ h2 = h) := by
  intro d h j n hj hn
  refine Ex.of mm_J0_checkIndex_df160 (Nat.le_of_ble_eq_true rfl) fun w κ X hk hnm => ?_
  refine r_iload_n (pc := 0) X dJ0_checkIndex_df160_0 rfl ?_
  refine r_iload_n (pc := 1) X dJ0_checkIndex_df160_1 rfl ?_
  refine r_sioobe (pc := 2) X dJ0_checkIndex_df160_2 ts_10_1053 ?_
  refine r_c1_3P (pc := 5) X rfl dJ0_checkIndex_df160_5 tc_10_1059 mm_J3_checkIndex_8e157 (j_pre d hj hn) (Nat.le_of_ble_eq_true rfl) ?_
  refine r_pop (pc := 8) X dJ0_checkIndex_df160_8 rfl ?_
  refine r_vret (pc := 9) X dJ0_checkIndex_df160_9 rfl ?_
  exact ⟨⟨rfl, rfl⟩, rfl⟩
set_option maxRecDepth 10000 in
set_option maxHeartbeats 4000000 in
theorem j_charAt1 : ∀ (d : Nat) {h : hp_T} {i : Nat} (hi : i < 7) {j : Nat} (hj : j < (sBy i).length), Ep (d + 2) nJ1_charAt_3b067 [.ref (10 + i), .int (nI j)] h (.int ((sBy i).getD j 0)) := by
  intro d h i hi j hj
  refine Ex.of mm_J1_charAt_3b067 (Nat.le_of_ble_eq_true rfl) fun w κ X hk hnm => ?_
  refine r_iload_n (pc := 0) X dJ1_charAt_3b067_0 rfl ?_
  refine r_aload_n (pc := 1) X dJ1_charAt_3b067_1 rfl ?_
  refine r_strlen (pc := 2) X dJ1_charAt_3b067_2 (by omega) ?_
  refine r_c1_2G (pc := 3) X rfl dJ1_charAt_3b067_3 tc_11_9 mm_J0_checkIndex_df160 (j_check d hj (sBy_31 i hi)) (Nat.le_of_ble_eq_true rfl) (fun v3 g3 q3 => ?_)
  obtain ⟨rfl, rfl⟩ := q3
  refine r_aload_n (pc := 6) X dJ1_charAt_3b067_6 rfl ?_
  refine r_iload_n (pc := 7) X dJ1_charAt_3b067_7 rfl ?_
  refine r_strld (pc := 8) X dJ1_charAt_3b067_8 (by omega) rfl hj (sBy_31 i hi) ?_
  refine r_sipush (pc := 9) (v := (nI 255)) X dJ1_charAt_3b067_9 (by decide) ?_
  refine r_iand (pc := 12) X dJ1_charAt_3b067_12 ?_
  refine r_i2c (pc := 13) X dJ1_charAt_3b067_13 rfl ?_
  rw [sBy_char i hi j hj]
  refine r_iret (pc := 14) X dJ1_charAt_3b067_14 rfl (sBy_nar i hi j hj) ?_
  exact ⟨⟨rfl, rfl⟩, rfl⟩
set_option maxRecDepth 10000 in
set_option maxHeartbeats 4000000 in
theorem j_charAt : ∀ (d : Nat) {h : hp_T} {i : Nat} (hi : i < 7) {j : Nat} (hj : j < (sBy i).length), Ep (d + 3) nJ0_charAt_5068e [.ref (3 + i), .int (nI j)] h (.int ((sBy i).getD j 0)) := by
  intro d h i hi j hj
  refine Ex.of mm_J0_charAt_5068e (Nat.le_of_ble_eq_true rfl) fun w κ X hk hnm => ?_
  refine r_aload_n (pc := 0) X dJ0_charAt_5068e_0 rfl ?_
  refine r_cS_0P (pc := 1) X rfl dJ0_charAt_5068e_1 tc_10_492 mm_J0_isLatin1_aae02 (by first | exact hi | decide) rfl (j_latin (d + 2) hi) (Nat.le_of_ble_eq_true rfl) ?_
  refine r_if_eq (pc := 4) X dJ0_charAt_5068e_4 (tgt := 16) (by decide) (fun c4 => ?_) (fun c4 => ?_)
  · exact absurd c4 (by decide)
  · refine r_aload_n (pc := 7) X dJ0_charAt_5068e_7 rfl ?_
    refine r_strval (pc := 8) X dJ0_charAt_5068e_8 (by omega) ts_10_9 ?_
    refine r_iload_n (pc := 11) X dJ0_charAt_5068e_11 rfl ?_
    refine r_c1_2P (pc := 12) X rfl dJ0_charAt_5068e_12 tc_10_495 mm_J1_charAt_3b067 (j_charAt1 d hi hj) (Nat.le_of_ble_eq_true rfl) ?_
    refine r_iret (pc := 15) X dJ0_charAt_5068e_15 rfl (sBy_nar i hi j hj) ?_
    exact ⟨⟨rfl, rfl⟩, rfl⟩
/-- the first of the signs, or n -/
def fstI (l : List Int32) (c : Int32) : Nat := match l with
  | [] => 0
  | x :: xs => if x = c then 0 else fstI xs c + 1
def idxF (i : Nat) (c : Int32) : Int32 := if fstI (sBy i) c < (sBy i).length then nI (fstI (sBy i) c) else -1
theorem fst_at {c : Int32} : ∀ (l : List Int32) (k : Nat), k ≤ fstI l c → (k < l.length → (l.getD k 0 = c ↔ fstI l c = k)) := by
  intro l
  induction l with
  | nil => intro k _ h; cases h
  | cons x xs ih =>
    intro k hk hl
    unfold fstI
    unfold fstI at hk
    by_cases e : x = c
    · rw [if_pos e] at hk ⊢
      have : k = 0 := by omega
      subst this
      simp [e]
    · rw [if_neg e] at hk ⊢
      cases k with
      | zero => simp [e]
      | succ k =>
        have := ih k (by omega) (by simpa using hl)
        simp only [List.getD_cons_succ]
        rw [this]
        omega
theorem fst_le {c : Int32} : ∀ (l : List Int32), fstI l c ≤ l.length := by
  intro l
  induction l with
  | nil => exact Nat.le_refl _
  | cons x xs ih =>
    unfold fstI
    split
    · exact Nat.zero_le _
    · exact Nat.succ_le_succ ih
theorem sBy_8 : ∀ k, k < 128 → (nI k).toInt8.toInt32 = nI k := by decide +kernel
theorem l_idx : ∀ (d : Nat) {h : hp_T} {i k : Nat} (hi : i < 7) {w : wc_T} {κ : cx_T} {Φ : Option Value → hp_T → Prop} (X : CX w κ d 11 cJ1_indexOfChar_4cfef 6 (some .int) Φ) (hΦ : Φ (some (.int (idxF i (nI k)))) h) {l1 l2 : Int32}, ∀ n j : Nat, j + n = (sBy i).length → j ≤ fstI (sBy i) (nI k) → GG w κ 7 [some (.ref (10 + i)), some (.int l1), some (.int l2), some (.int (nI (sBy i).length)), some (.int (nI k)), some (.int (nI j))] [] h := by
  intro d h i k hi w κ Φ X hΦ l1 l2 n
  have hn := sBy_31 i hi
  induction n with
  | zero =>
    intro j hj hf
    have e : j = (sBy i).length := by omega
    subst e
    refine r_iload (pc := 7) X dJ1_indexOfChar_4cfef_7 rfl ?_
    refine r_iload_n (pc := 9) X dJ1_indexOfChar_4cfef_9 rfl ?_
    refine r_icmp_geN (pc := 10) X dJ1_indexOfChar_4cfef_10 (tgt := 31) (by decide) (by omega) (by omega) (fun c10 => ?_) (fun c10 => ?_)
    · refine r_iconst (pc := 31) (v := (-1)) X dJ1_indexOfChar_4cfef_31 (by decide) ?_
      refine r_iret (pc := 32) X dJ1_indexOfChar_4cfef_32 rfl rfl ?_
      have e : idxF i (nI k) = -1 := if_neg (by omega)
      rw [e] at hΦ
      exact hΦ
    · exact absurd (Nat.le_refl _) c10
  | succ n ih =>
    intro j hj hf
    have ih := ih (j + 1) (by omega)
    have fa := fst_at (c := nI k) (sBy i) j hf (by omega)
    refine r_iload (pc := 7) X dJ1_indexOfChar_4cfef_7 rfl ?_
    refine r_iload_n (pc := 9) X dJ1_indexOfChar_4cfef_9 rfl ?_
    refine r_icmp_geN (pc := 10) X dJ1_indexOfChar_4cfef_10 (tgt := 31) (by decide) (by omega) (by omega) (fun c10 => ?_) (fun c10 => ?_)
    · exact absurd c10 (by omega)
    · refine r_aload_n (pc := 13) X dJ1_indexOfChar_4cfef_13 rfl ?_
      refine r_iload (pc := 14) X dJ1_indexOfChar_4cfef_14 rfl ?_
      refine r_strld (pc := 16) X dJ1_indexOfChar_4cfef_16 (by omega) rfl (by omega) hn ?_
      refine r_iload (pc := 17) X dJ1_indexOfChar_4cfef_17 rfl ?_
      refine r_icmp_ne (pc := 19) X dJ1_indexOfChar_4cfef_19 (tgt := 25) (by decide) (fun c19 => ?_) (fun c19 => ?_)
      · refine r_iinc (pc := 25) X dJ1_indexOfChar_4cfef_25 rfl (by first | exact nI_i1 _ | rfl) ?_
        refine r_goto (pc := 28) X dJ1_indexOfChar_4cfef_28 (tgt := 7) (by decide) ?_
        exact ih (by have : ¬ fstI (sBy i) (nI k) = j := fun z => c19 (fa.mpr z); omega)
      · refine r_iload (pc := 22) X dJ1_indexOfChar_4cfef_22 rfl ?_
        refine r_iret (pc := 24) X dJ1_indexOfChar_4cfef_24 rfl rfl ?_
        have e : idxF i (nI k) = nI j := by
          have e1 := fa.mp (c19)
          unfold idxF
          rw [e1, if_pos (by omega)]
        rw [e] at hΦ
        exact hΦ
set_option maxRecDepth 10000 in
set_option maxHeartbeats 4000000 in
theorem j_idxChar : ∀ (d : Nat) {h : hp_T} {i : Nat} (hi : i < 7) {k : Nat} (hc : k < 128), Ep d nJ1_indexOfChar_4cfef [.ref (10 + i), .int (nI k), .int (nI 0), .int (nI (sBy i).length)] h (.int (idxF i (nI k))) := by
  intro d h i hi k hc
  refine Ex.of mm_J1_indexOfChar_4cfef (Nat.le_of_ble_eq_true rfl) fun w κ X hk hnm => ?_
  refine r_iload_n (pc := 0) X dJ1_indexOfChar_4cfef_0 rfl ?_
  refine r_i2b (pc := 1) X dJ1_indexOfChar_4cfef_1 rfl ?_
  rw [sBy_8 k hc]
  refine r_istore (pc := 2) X dJ1_indexOfChar_4cfef_2 (Nat.le_of_ble_eq_true rfl) ?_
  refine r_iload_n (pc := 4) X dJ1_indexOfChar_4cfef_4 rfl ?_
  refine r_istore (pc := 5) X dJ1_indexOfChar_4cfef_5 (Nat.le_of_ble_eq_true rfl) ?_
  exact l_idx d hi X ⟨⟨rfl, rfl⟩, rfl⟩ _ 0 (Nat.zero_add _) (Nat.zero_le _)
set_option maxRecDepth 10000 in
set_option maxHeartbeats 4000000 in
theorem j_canEnc : ∀ (d : Nat) {h : hp_T} {i : Nat} (hi : i < 7) {k : Nat} (hc : k < 128), Ep d nJ1_canEncode_9a6ad [.int (nI k)] h (.int (nI 1)) := by
  intro d h i hi k hc
  refine Ex.of mm_J1_canEncode_9a6ad (Nat.le_of_ble_eq_true rfl) fun w κ X hk hnm => ?_
  refine r_iload_n (pc := 0) X dJ1_canEncode_9a6ad_0 rfl ?_
  refine r_if_lt (pc := 1) X dJ1_canEncode_9a6ad_1 (tgt := 15) (by decide) (fun c1 => ?_) (fun c1 => ?_)
  · refine r_iconst (pc := 15) (v := (nI 0)) X dJ1_canEncode_9a6ad_15 (by decide) ?_
    refine r_iret (pc := 16) X dJ1_canEncode_9a6ad_16 rfl rfl ?_
    first
      | exact absurd c1 (nI_pos (by omega))
      | exact absurd c8 (fun z => nI_nlt (a := 255) (b := k) (by omega) (by omega) z)
      | exact ⟨⟨rfl, rfl⟩, rfl⟩
  · refine r_iload_n (pc := 4) X dJ1_canEncode_9a6ad_4 rfl ?_
    refine r_sipush (pc := 5) (v := (nI 255)) X dJ1_canEncode_9a6ad_5 (by decide) ?_
    refine r_icmp_gt (pc := 8) X dJ1_canEncode_9a6ad_8 (tgt := 15) (by decide) (fun c8 => ?_) (fun c8 => ?_)
    · refine r_iconst (pc := 15) (v := (nI 0)) X dJ1_canEncode_9a6ad_15 (by decide) ?_
      refine r_iret (pc := 16) X dJ1_canEncode_9a6ad_16 rfl rfl ?_
      first
        | exact absurd c1 (nI_pos (by omega))
        | exact absurd c8 (fun z => nI_nlt (a := 255) (b := k) (by omega) (by omega) z)
        | exact ⟨⟨rfl, rfl⟩, rfl⟩
    · refine r_iconst (pc := 11) (v := (nI 1)) X dJ1_canEncode_9a6ad_11 (by decide) ?_
      refine r_goto (pc := 12) X dJ1_canEncode_9a6ad_12 (tgt := 16) (by decide) ?_
      refine r_iret (pc := 16) X dJ1_canEncode_9a6ad_16 rfl rfl ?_
      first
        | exact absurd c1 (nI_pos (by omega))
        | exact absurd c8 (fun z => nI_nlt (a := 255) (b := k) (by omega) (by omega) z)
        | exact ⟨⟨rfl, rfl⟩, rfl⟩
set_option maxRecDepth 10000 in
set_option maxHeartbeats 4000000 in
theorem j_idx1 : ∀ (d : Nat) {h : hp_T} {i : Nat} (hi : i < 7) {k : Nat} (hc : k < 128), Ep (d + 1) nJ1_indexOf_4cfef [.ref (10 + i), .int (nI k), .int (nI 0), .int (nI (sBy i).length)] h (.int (idxF i (nI k))) := by
  intro d h i hi k hc
  refine Ex.of mm_J1_indexOf_4cfef (Nat.le_of_ble_eq_true rfl) fun w κ X hk hnm => ?_
  refine r_iload_n (pc := 0) X dJ1_indexOf_4cfef_0 rfl ?_
  refine r_c1_1P (pc := 1) X rfl dJ1_indexOf_4cfef_1 tc_11_88 mm_J1_canEncode_9a6ad (j_canEnc d hi hc) (Nat.le_of_ble_eq_true rfl) ?_
  refine r_if_ne (pc := 4) X dJ1_indexOf_4cfef_4 (tgt := 9) (by decide) (fun c4 => ?_) (fun c4 => ?_)
  · refine r_iload_n (pc := 9) X dJ1_indexOf_4cfef_9 rfl ?_
    refine r_iconst (pc := 10) (v := (nI 0)) X dJ1_indexOf_4cfef_10 (by decide) ?_
    refine r_max (pc := 11) X rfl dJ1_indexOf_4cfef_11 tx_11_92 (Nat.le_of_ble_eq_true rfl) ?_
    refine r_top (show _ = nI 0 by decide) ?_
    refine r_istore_n (pc := 14) X dJ1_indexOf_4cfef_14 (Nat.le_of_ble_eq_true rfl) ?_
    refine r_iload_n (pc := 15) X dJ1_indexOf_4cfef_15 rfl ?_
    refine r_aload_n (pc := 16) X dJ1_indexOf_4cfef_16 rfl ?_
    refine r_strlen (pc := 17) X dJ1_indexOf_4cfef_17 (by omega) ?_
    refine r_min (pc := 18) X rfl dJ1_indexOf_4cfef_18 tx_11_38 (Nat.le_of_ble_eq_true rfl) ?_
    refine r_top (show _ = nI (sBy i).length by split <;> rfl) ?_
    refine r_istore_n (pc := 21) X dJ1_indexOf_4cfef_21 (Nat.le_of_ble_eq_true rfl) ?_
    refine r_iload_n (pc := 22) X dJ1_indexOf_4cfef_22 rfl ?_
    refine r_iload_n (pc := 23) X dJ1_indexOf_4cfef_23 rfl ?_
    refine r_icmp_lt (pc := 24) X dJ1_indexOf_4cfef_24 (tgt := 29) (by decide) (fun c24 => ?_) (fun c24 => ?_)
    · refine r_aload_n (pc := 29) X dJ1_indexOf_4cfef_29 rfl ?_
      refine r_iload_n (pc := 30) X dJ1_indexOf_4cfef_30 rfl ?_
      refine r_iload_n (pc := 31) X dJ1_indexOf_4cfef_31 rfl ?_
      refine r_iload_n (pc := 32) X dJ1_indexOf_4cfef_32 rfl ?_
      refine r_c1_4P (pc := 33) X rfl dJ1_indexOf_4cfef_33 tc_11_95 mm_J1_indexOfChar_4cfef (j_idxChar d hi hc) (Nat.le_of_ble_eq_true rfl) ?_
      refine r_iret (pc := 36) X dJ1_indexOf_4cfef_36 rfl rfl ?_
      exact ⟨⟨rfl, rfl⟩, rfl⟩
    · exact absurd (nI_lt (sBy_0 i hi) (sBy_31 i hi)) c24
  · exact absurd c4 (by decide)
set_option maxRecDepth 10000 in
set_option maxHeartbeats 4000000 in
theorem j_idx2 : ∀ (d : Nat) {h : hp_T} {i : Nat} (hi : i < 7) {k : Nat} (hc : k < 128), Ep (d + 2) nJ0_indexOf_7cf53 [.ref (3 + i), .int (nI k), .int (nI 0)] h (.int (idxF i (nI k))) := by
  intro d h i hi k hc
  refine Ex.of mm_J0_indexOf_7cf53 (Nat.le_of_ble_eq_true rfl) fun w κ X hk hnm => ?_
  refine r_aload_n (pc := 0) X dJ0_indexOf_7cf53_0 rfl ?_
  refine r_cS_0P (pc := 1) X rfl dJ0_indexOf_7cf53_1 tc_10_492 mm_J0_isLatin1_aae02 (by first | exact hi | decide) rfl (j_latin (d + 1) hi) (Nat.le_of_ble_eq_true rfl) ?_
  refine r_if_eq (pc := 4) X dJ0_indexOf_7cf53_4 (tgt := 23) (by decide) (fun c4 => ?_) (fun c4 => ?_)
  · exact absurd c4 (by decide)
  · refine r_aload_n (pc := 7) X dJ0_indexOf_7cf53_7 rfl ?_
    refine r_strval (pc := 8) X dJ0_indexOf_7cf53_8 (by omega) ts_10_9 ?_
    refine r_iload_n (pc := 11) X dJ0_indexOf_7cf53_11 rfl ?_
    refine r_iload_n (pc := 12) X dJ0_indexOf_7cf53_12 rfl ?_
    refine r_aload_n (pc := 13) X dJ0_indexOf_7cf53_13 rfl ?_
    refine r_cS_0P (pc := 14) X rfl dJ0_indexOf_7cf53_14 tc_10_505 mm_J0_length_8abf5 (by first | exact hi | decide) rfl (j_length d hi) (Nat.le_of_ble_eq_true rfl) ?_
    refine r_c1_4P (pc := 17) X rfl dJ0_indexOf_7cf53_17 tc_10_637 mm_J1_indexOf_4cfef (j_idx1 d hi hc) (Nat.le_of_ble_eq_true rfl) ?_
    refine r_goto (pc := 20) X dJ0_indexOf_7cf53_20 (tgt := 36) (by decide) ?_
    refine r_iret (pc := 36) X dJ0_indexOf_7cf53_36 rfl rfl ?_
    exact ⟨⟨rfl, rfl⟩, rfl⟩
set_option maxRecDepth 10000 in
set_option maxHeartbeats 4000000 in
theorem j_idx : ∀ (d : Nat) {h : hp_T} {i : Nat} (hi : i < 7) {k : Nat} (hc : k < 128), Ep (d + 3) nJ0_indexOf_0f7a4 [.ref (3 + i), .int (nI k)] h (.int (idxF i (nI k))) := by
  intro d h i hi k hc
  refine Ex.of mm_J0_indexOf_0f7a4 (Nat.le_of_ble_eq_true rfl) fun w κ X hk hnm => ?_
  refine r_aload_n (pc := 0) X dJ0_indexOf_0f7a4_0 rfl ?_
  refine r_iload_n (pc := 1) X dJ0_indexOf_0f7a4_1 rfl ?_
  refine r_iconst (pc := 2) (v := (nI 0)) X dJ0_indexOf_0f7a4_2 (by decide) ?_
  refine r_cS_2P (pc := 3) X rfl dJ0_indexOf_0f7a4_3 tc_10_633 mm_J0_indexOf_7cf53 (by first | exact hi | decide) rfl (j_idx2 d hi hc) (Nat.le_of_ble_eq_true rfl) ?_
  refine r_iret (pc := 6) X dJ0_indexOf_0f7a4_6 rfl rfl ?_
  exact ⟨⟨rfl, rfl⟩, rfl⟩
theorem mU_mU {M : Mem} {a : Nat} {f g : Nat → Int32} : mU (mU M a f) a g = mU M a g := by
  funext b
  unfold mU
  by_cases e : b = a
  · rw [if_pos e, if_pos e]
  · rw [if_neg e, if_neg e, if_neg e]
theorem mU_self {M : Mem} {a : Nat} {f : Nat → Int32} (h : f = M a) : mU M a f = M := by
  funext b
  unfold mU
  by_cases e : b = a
  · rw [if_pos e, h, e]
  · rw [if_neg e]
def fillI (f : Nat → Int32) (k : Nat) (x : Int32) : Nat → Int32 := fun i => if i < k then x else f i
theorem fillI_s {f : Nat → Int32} {k : Nat} {x : Int32} : upd (fillI f k x) k x = fillI f (k + 1) x := by
  funext i
  unfold upd fillI
  by_cases e : i = k
  · rw [if_pos e, if_pos (by omega)]
  · rw [if_neg e]
    by_cases e2 : i < k
    · rw [if_pos e2, if_pos (by omega)]
    · rw [if_neg e2, if_neg (by omega)]
theorem l_fillI : ∀ (d : Nat) {h : hp_T} {M : Mem} {a N : Nat} {x : Int32} (ha : ck h a 1 N) (hN : N < 2 ^ 31) {w : wc_T} {κ : cx_T} {Φ : Option Value → hp_T → Prop} (X : CX w κ d 13 cJ7_fill_53178 4 none Φ) (hΦ : Φ none (wi h (mU M a (fillI (M a) N x)))), ∀ n k : Nat, k + n = N → GG w κ 5 [some (.ref a), some (.int x), some (.int (nI k)), some (.int (nI N))] [] (wi h (mU M a (fillI (M a) k x))) := by
  intro d h M a N x ha hN w κ Φ X hΦ n
  induction n with
  | zero =>
    intro k hk
    have e : k = N := by omega
    subst e
    refine r_iload_n (pc := 5) X dJ7_fill_53178_5 rfl ?_
    refine r_iload_n (pc := 6) X dJ7_fill_53178_6 rfl ?_
    refine r_icmp_geN (pc := 7) X dJ7_fill_53178_7 (tgt := 20) (by decide) (by omega) (by omega) (fun c7 => ?_) (fun c7 => ?_)
    · refine r_vret (pc := 20) X dJ7_fill_53178_20 rfl ?_
      exact hΦ
    · exact absurd (Nat.le_refl _) c7
  | succ n ih =>
    intro k hk
    have ih := ih (k + 1) (by omega)
    refine r_iload_n (pc := 5) X dJ7_fill_53178_5 rfl ?_
    refine r_iload_n (pc := 6) X dJ7_fill_53178_6 rfl ?_
    refine r_icmp_geN (pc := 7) X dJ7_fill_53178_7 (tgt := 20) (by decide) (by omega) (by omega) (fun c7 => ?_) (fun c7 => ?_)
    · exact absurd c7 (by omega)
    · refine r_aload_n (pc := 10) X dJ7_fill_53178_10 rfl ?_
      refine r_iload_n (pc := 11) X dJ7_fill_53178_11 rfl ?_
      refine r_iload_n (pc := 12) X dJ7_fill_53178_12 rfl ?_
      refine r_iastW (pc := 13) X dJ7_fill_53178_13 ha rfl (by omega) hN ?_
      rw [mU_mU, mU_eq, fillI_s]
      refine r_iinc (pc := 14) X dJ7_fill_53178_14 rfl (by first | exact nI_i1 _ | rfl) ?_
      refine r_goto (pc := 17) X dJ7_fill_53178_17 (tgt := 5) (by decide) ?_
      exact ih
set_option maxRecDepth 10000 in
set_option maxHeartbeats 4000000 in
theorem e_fillI : ∀ (d : Nat) {h : hp_T} {M : Mem} {a N : Nat} {x : Int32} (ha : ck h a 1 N) (hN : N < 2 ^ 31), Ev d nJ7_fill_53178 [.ref a, .int x] (wi h M) (fun M1 => M1 = mU M a (fillI (M a) N x)) := by
  intro d h M a N x ha hN
  refine Ex.of mm_J7_fill_53178 (Nat.le_of_ble_eq_true rfl) fun w κ X hk hnm => ?_
  refine r_iconst (pc := 0) (v := (nI 0)) X dJ7_fill_53178_0 (by decide) ?_
  refine r_istore_n (pc := 1) X dJ7_fill_53178_1 (Nat.le_of_ble_eq_true rfl) ?_
  refine r_aload_n (pc := 2) X dJ7_fill_53178_2 rfl ?_
  refine r_alen (pc := 3) X dJ7_fill_53178_3 ha (by decide) rfl ?_
  refine r_istore_n (pc := 4) X dJ7_fill_53178_4 (Nat.le_of_ble_eq_true rfl) ?_
  have e := l_fillI d (M := M) (x := x) ha hN X ⟨⟨_, rfl, rfl, rfl⟩, rfl⟩ N 0 (by omega)
  have e0 : mU M a (fillI (M a) 0 x) = M := mU_self (funext fun i => if_neg (Nat.not_lt_zero i))
  rw [e0] at e
  exact e
theorem ck_nC {h : hp_T} {a t n t2 n2 len : Nat} (ha : ck h a t n) : ck (nC h t2 n2 len) a t n := by
  refine ⟨?_, ha.2.1, Nat.lt_succ_of_lt ha.2.2⟩
  show (if a = h_n h then (t2, n2) else h_k h a) = _
  exact (if_neg (Nat.ne_of_lt ha.2.2)).trans ha.1
theorem ck_new {h : hp_T} {t n len : Nat} (h0 : 23 ≤ h_n h) : ck (nC h t n len) (h_n h) t n := by
  refine ⟨?_, h0, Nat.lt_succ_self _⟩
  show (if h_n h = h_n h then (t, n) else h_k h _) = _
  exact if_pos rfl
theorem nC_i {h : hp_T} {a t n len : Nat} (ha : a < h_n h) : h_i (nC h t n len) a = h_i h a := if_neg (Nat.ne_of_lt ha)
set_option maxRecDepth 10000 in
set_option maxHeartbeats 4000000 in
theorem e_copyOf : ∀ (d : Nat) {h : hp_T} {a N n : Nat} (ha : ck h a 1 N) (hN : N < 65536) (hn : n ≤ N), Ex (d + 2) nJ7_copyOf_59c91 [.ref a, .int (nI n)] h 1 n (fun v2 h2 => ∃ g : Nat → Int32, v2 = some (.ref (h_n h)) ∧ h2 = sI (nC h 1 n n) (h_n h) g ∧ ∀ i, i < n → g i = h_i h a i) := by
  intro d h a N n ha hN hn
  refine Ex.of mm_J7_copyOf_59c91 (Nat.le_of_ble_eq_true rfl) fun w κ X hk hnm => ?_
  refine r_iload_n (pc := 0) X dJ7_copyOf_59c91_0 rfl ?_
  refine r_aload_n (pc := 1) X dJ7_copyOf_59c91_1 rfl ?_
  refine r_alen (pc := 2) X dJ7_copyOf_59c91_2 (by first | exact ha | exact ck_nC ha) (by decide) rfl ?_
  refine r_icmp_neN (pc := 3) X dJ7_copyOf_59c91_3 (tgt := 14) (by decide) (by omega) (by omega) (fun c3 => ?_) (fun c3 => ?_)
  · refine r_iload_n (pc := 14) X dJ7_copyOf_59c91_14 rfl ?_
    refine r_newa1 (pc := 15) X dJ7_copyOf_59c91_15 rfl (by omega) (by rw [hk]; exact ⟨Nat.le_refl _, Nat.le_refl _⟩) ?_
    refine r_astore_n (pc := 17) X dJ7_copyOf_59c91_17 (Nat.le_of_ble_eq_true rfl) ?_
    refine r_aload_n (pc := 18) X dJ7_copyOf_59c91_18 rfl ?_
    refine r_iconst (pc := 19) (v := (nI 0)) X dJ7_copyOf_59c91_19 (by decide) ?_
    refine r_aload_n (pc := 20) X dJ7_copyOf_59c91_20 rfl ?_
    refine r_iconst (pc := 21) (v := (nI 0)) X dJ7_copyOf_59c91_21 (by decide) ?_
    refine r_aload_n (pc := 22) X dJ7_copyOf_59c91_22 rfl ?_
    refine r_alen (pc := 23) X dJ7_copyOf_59c91_23 (by first | exact ha | exact ck_nC ha) (by decide) rfl ?_
    refine r_iload_n (pc := 24) X dJ7_copyOf_59c91_24 rfl ?_
    refine r_min (pc := 25) X rfl dJ7_copyOf_59c91_25 tx_13_304 (Nat.le_of_ble_eq_true rfl) ?_
    refine r_top (show _ = nI n from if_pos (nI_lt (by omega) (by omega))) ?_
    refine r_copyi (pc := 28) X rfl dJ7_copyOf_59c91_28 tq_13_150 (by first | exact ha | exact ck_nC ha) (ck_new (by have := ha.2.1; have := ha.2.2; omega)) rfl rfl rfl ⟨by omega, by omega⟩ ⟨by omega, by omega⟩ (Nat.le_of_ble_eq_true rfl) ?_
    refine r_aload_n (pc := 31) X dJ7_copyOf_59c91_31 rfl ?_
    refine r_aret (pc := 32) (r := (some (h_n h))) X dJ7_copyOf_59c91_32 rfl rfl ?_ (by intro z; have e := Option.some.inj z; have := ha.2.1; have := ha.2.2; omega)
    refine ⟨⟨_, rfl, rfl, fun i hi => ?_⟩, rfl⟩
    rw [nC_i ha.2.2]
    unfold va_cpy
    rw [if_pos ⟨Nat.zero_le _, by omega⟩, Nat.zero_add, Nat.sub_zero]
  · refine r_aload_n (pc := 6) X dJ7_copyOf_59c91_6 rfl ?_
    subst c3
    refine r_clone (pc := 7) X rfl dJ7_copyOf_59c91_7 tcl_link ha (by rw [hk]; exact ⟨Nat.le_refl _, Nat.le_refl _⟩) (Nat.le_of_ble_eq_true rfl) ?_
    refine r_castI (pc := 10) X dJ7_copyOf_59c91_10 tw_13_317 (ck_new (by have := ha.2.1; have := ha.2.2; omega)) ?_
    refine r_aret (pc := 13) (r := some (h_n h)) X dJ7_copyOf_59c91_13 rfl rfl ?_ (by intro z; have e := Option.some.inj z; have := ha.2.1; have := ha.2.2; omega)
    exact ⟨⟨h_i h a, rfl, rfl, fun _ _ => rfl⟩, rfl⟩
