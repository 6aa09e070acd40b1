/-! the street's own methods: what is read -/
set_option maxRecDepth 10000 in
theorem e_way : ∀ (d : Nat) {h : hp_T} {o p q : Nat} (S : St h o) (hp : p < 6) (hq : q < 6), Ep (d + 1) nX5_way [.ref o, .int (nI p), .int (nI q)] h (.int (wayF (Sv (h_i h) o) p q)) := by
  intro d h o p q S hp hq
  refine Ex.of mm_X5_way (Nat.le_of_ble_eq_true rfl) fun w κ X hk hnm => ?_
  refine r_aload_n (pc := 0) X dX5_way_0 rfl ?_
  refine r_getr (pc := 1) X dX5_way_1 tf_5_18 rfl S.c0 S.r2 ?_
  refine r_iload_n (pc := 4) X dX5_way_4 rfl ?_
  refine r_iald (pc := 5) X dX5_way_5 S.a3 rfl (by omega) (by decide) rfl ?_
  refine r_aload_n (pc := 6) X dX5_way_6 rfl ?_
  refine r_getr (pc := 7) X dX5_way_7 tf_5_18 rfl S.c0 S.r2 ?_
  refine r_iload_n (pc := 10) X dX5_way_10 rfl ?_
  refine r_iald (pc := 11) X dX5_way_11 S.a3 rfl (by omega) (by decide) rfl ?_
  refine r_isub (pc := 12) X dX5_way_12 ?_
  refine r_abs (pc := 13) X rfl dX5_way_13 tx_5_94 (Nat.le_of_ble_eq_true rfl) ?_
  refine r_iret (pc := 16) X dX5_way_16 rfl rfl ?_
  exact ⟨⟨rfl, rfl⟩, rfl⟩
set_option maxRecDepth 10000 in
theorem e_has : ∀ (d : Nat) {h : hp_T} {o : Nat} (x : Int32) (S : St h o), Ep d nX5_has [.ref o, .int x] h (.int (if 0 ≤ x ∧ x < Sv (h_i h) o 0 6 then nI 1 else nI 0)) := by
  intro d h o x S
  refine Ex.of mm_X5_has (Nat.le_of_ble_eq_true rfl) fun w κ X hk hnm => ?_
  refine r_iload_n (pc := 0) X dX5_has_0 rfl ?_
  refine r_if_lt (pc := 1) X dX5_has_1 (tgt := 16) (by decide) (fun c1 => ?_) (fun c1 => ?_)
  · refine r_iconst (pc := 16) (v := (nI 0)) X dX5_has_16 (by decide) ?_
    refine r_iret (pc := 17) X dX5_has_17 rfl rfl ?_
    exact ⟨⟨by simp [*, Sv], rfl⟩, rfl⟩
  · refine r_iload_n (pc := 4) X dX5_has_4 rfl ?_
    refine r_aload_n (pc := 5) X dX5_has_5 rfl ?_
    refine r_geti (pc := 6) X dX5_has_6 tf_5_53 rfl S.c0 rfl ?_
    refine r_icmp_ge (pc := 9) X dX5_has_9 (tgt := 16) (by decide) (fun c9 => ?_) (fun c9 => ?_)
    · refine r_iconst (pc := 16) (v := (nI 0)) X dX5_has_16 (by decide) ?_
      refine r_iret (pc := 17) X dX5_has_17 rfl rfl ?_
      exact ⟨⟨by simp [*, Sv], rfl⟩, rfl⟩
    · refine r_iconst (pc := 12) (v := (nI 1)) X dX5_has_12 (by decide) ?_
      refine r_goto (pc := 13) X dX5_has_13 (tgt := 17) (by decide) ?_
      refine r_iret (pc := 17) X dX5_has_17 rfl rfl ?_
      exact ⟨⟨by simp [*, Sv], rfl⟩, rfl⟩
set_option maxRecDepth 10000 in
theorem e_isAtEnd : ∀ (d : Nat) {h : hp_T} {o : Nat} (S : St h o), Ep d nX5_isAtEnd [.ref o] h (.int (if endF (Sv (h_i h) o) = true then nI 1 else nI 0)) := by
  intro d h o S
  refine Ex.of mm_X5_isAtEnd (Nat.le_of_ble_eq_true rfl) fun w κ X hk hnm => ?_
  refine r_aload_n (pc := 0) X dX5_isAtEnd_0 rfl ?_
  refine r_geti (pc := 1) X dX5_isAtEnd_1 tf_5_30 rfl S.c0 rfl ?_
  refine r_bipush (pc := 4) (v := (-5)) X dX5_isAtEnd_4 (by decide) ?_
  refine r_icmp_eq (pc := 6) X dX5_isAtEnd_6 (tgt := 13) (by decide) (fun c6 => ?_) (fun c6 => ?_)
  · refine r_iconst (pc := 13) (v := (nI 0)) X dX5_isAtEnd_13 (by decide) ?_
    refine r_iret (pc := 14) X dX5_isAtEnd_14 rfl rfl ?_
    exact ⟨⟨by simp_all [endF, Sv], rfl⟩, rfl⟩
  · refine r_iconst (pc := 9) (v := (nI 1)) X dX5_isAtEnd_9 (by decide) ?_
    refine r_goto (pc := 10) X dX5_isAtEnd_10 (tgt := 14) (by decide) ?_
    refine r_iret (pc := 14) X dX5_isAtEnd_14 rfl rfl ?_
    exact ⟨⟨by simp_all [endF, Sv], rfl⟩, rfl⟩
