def holdF (V : VT) : Int32 := if V 0 6 = 0 then -5 else V 0 7
def buckF (V : VT) (x : Int32) : Int32 := if x = nI 0 then holdF V else if x = nI 1 then V 0 8 else V 0 10
theorem tgt_far {E : EV} {V : VT} {p : Nat} {r : Option Nat} (hk : V 1 p = nI 2 ∨ V 1 p = nI 5) (hr : farK V p (reachF E V p) (vP V) = r) (hP : vP V ≤ 6) : (¬ enc5 r = -5 → enc5 (targetF E V p) = enc5 r) ∧ (enc5 r = -5 → enc5 (targetF E V p) = enc5 (nearK V p (vP V))) := by
  unfold targetF
  rw [if_pos hk, hr]
  cases r with
  | none => exact ⟨fun c => absurd rfl c, fun _ => rfl⟩
  | some q =>
    have hq : q < vP V := bestO_lt hr
    exact ⟨fun _ => rfl, fun c => absurd c (nI_ne5 (by omega))⟩
theorem tgt_hope {E : EV} {V : VT} {p : Nat} (hk : V 1 p = nI 3 ∨ V 1 p = nI 6) : targetF E V p = hopeK V p (vP V) := by
  unfold targetF
  rw [if_neg (by rcases hk with e | e <;> rw [e] <;> decide), if_pos hk]
theorem tgt_near {E : EV} {V : VT} {p : Nat} (hk : ¬ V 1 p = nI 2 ∧ ¬ V 1 p = nI 3 ∧ ¬ V 1 p = nI 5 ∧ ¬ V 1 p = nI 6) : targetF E V p = nearK V p (vP V) := by
  unfold targetF
  rw [if_neg (fun e => e.elim hk.1 hk.2.2.1), if_neg (fun e => e.elim hk.2.1 hk.2.2.2)]
theorem nI_01 : ¬ nI 1 = nI 0 := by decide
theorem nI_16 : (¬ nI 2 = nI 1) ∧ (¬ nI 4 = nI 1) ∧ (¬ nI 5 = nI 1) ∧ (¬ nI 6 = nI 1) ∧ (¬ nI 2 = nI 4) ∧ (¬ nI 5 = nI 4) ∧ (¬ nI 6 = nI 4) ∧ (¬ nI 5 = nI 2) ∧ (¬ nI 6 = nI 2) ∧ (¬ nI 6 = nI 5) := by decide
theorem ne_pos {x : Int32} (h : ¬ x ≤ 0) : ¬ x = 0 := fun e => h (by rw [e]; decide)
theorem rem_nI {a b : Nat} (ha : a < 2 ^ 31) (h0 : 0 < b) (hb : b < 2 ^ 31) : rem_ (nI a) (nI b) = nI (a % b) := pk_rem ha h0 hb
theorem row_ix {V : VT} {B : Nat} (hW : WF B V) {p : Nat} (hp : p < 6) : nI p * nI 4 + (V 0 9 - V 0 9 / nI 4 * nI 4) = nI (p * 4 + (rem_ (V 0 9) (nI 4)).toNatClampNeg) := by
  obtain ⟨n, hn, e⟩ := hW.2.2.2.2.1
  have hB : B ≤ 1000000 := hW.2.2.2.2.2.2.2.2
  show nI p * nI 4 + rem_ (V 0 9) (nI 4) = _
  rw [e, rem_nI (by omega) (by omega) (by omega), nI_clamp (by omega), pk_mul, nI_add]
theorem idx_row {V : VT} {B : Nat} (hW : WF B V) {p : Nat} (hp : p < 6) : p * 4 + (rem_ (V 0 9) (nI 4)).toNatClampNeg < 24 := by
  obtain ⟨n, hn, e⟩ := hW.2.2.2.2.1
  have hB : B ≤ 1000000 := hW.2.2.2.2.2.2.2.2
  rw [e, rem_nI (by omega) (by omega) (by omega), nI_clamp (by omega)]
  omega
/-! the street's own methods: what is read -/
set_option maxRecDepth 10000 in
set_option maxHeartbeats 4000000 in
theorem e_way : ∀ (d : Nat) {h : hp_T} {o p q : Nat} (S : St h o) (hp : p < 6) (hq : q < 6), Ep (d + 1) nX5_way [.ref o, .int (nI p), .int (nI q)] h (.int (wayF (Sv (h_i h) o) p q)) := by
  intro d h o p q S hp hq
  refine Ex.of mm_X5_way (Nat.le_of_ble_eq_true rfl) fun w κ X hk hnm => ?_
  refine r_aload_n (pc := 0) X dX5_way_0 rfl ?_
  refine r_getr (pc := 1) X dX5_way_1 tf_5_18 rfl S.c0 S.r2 ?_
  refine r_iload_n (pc := 4) X dX5_way_4 rfl ?_
  refine r_iald (pc := 5) X dX5_way_5 S.a3 rfl (by omega) (by omega) rfl ?_
  refine r_aload_n (pc := 6) X dX5_way_6 rfl ?_
  refine r_getr (pc := 7) X dX5_way_7 tf_5_18 rfl S.c0 S.r2 ?_
  refine r_iload_n (pc := 10) X dX5_way_10 rfl ?_
  refine r_iald (pc := 11) X dX5_way_11 S.a3 rfl (by omega) (by omega) rfl ?_
  refine r_isub (pc := 12) X dX5_way_12 ?_
  refine r_abs (pc := 13) X rfl dX5_way_13 tx_5_84 (Nat.le_of_ble_eq_true rfl) ?_
  refine r_iret (pc := 16) X dX5_way_16 rfl rfl ?_
  exact ⟨⟨rfl, rfl⟩, rfl⟩
set_option maxRecDepth 10000 in
set_option maxHeartbeats 4000000 in
theorem e_has : ∀ (d : Nat) {h : hp_T} {o : Nat} (x : Int32) (S : St h o), Ep d nX5_has [.ref o, .int x] h (.int (b2 (hasF x ((Sv (h_i h) o) 0 6)))) := by
  intro d h o x S
  refine Ex.of mm_X5_has (Nat.le_of_ble_eq_true rfl) fun w κ X hk hnm => ?_
  refine r_iload_n (pc := 0) X dX5_has_0 rfl ?_
  refine r_if_lt (pc := 1) X dX5_has_1 (tgt := 16) (by decide) (fun c1 => ?_) (fun c1 => ?_)
  · refine r_iconst (pc := 16) (v := (nI 0)) X dX5_has_16 (by decide) ?_
    refine r_iret (pc := 17) X dX5_has_17 rfl rfl ?_
    exact ⟨⟨by simp [*, Sv, hasF, b2], rfl⟩, rfl⟩
  · refine r_iload_n (pc := 4) X dX5_has_4 rfl ?_
    refine r_aload_n (pc := 5) X dX5_has_5 rfl ?_
    refine r_geti (pc := 6) X dX5_has_6 tf_5_40 rfl S.c0 rfl ?_
    refine r_icmp_ge (pc := 9) X dX5_has_9 (tgt := 16) (by decide) (fun c9 => ?_) (fun c9 => ?_)
    · refine r_iconst (pc := 16) (v := (nI 0)) X dX5_has_16 (by decide) ?_
      refine r_iret (pc := 17) X dX5_has_17 rfl rfl ?_
      exact ⟨⟨by simp [*, Sv, hasF, b2], rfl⟩, rfl⟩
    · refine r_iconst (pc := 12) (v := (nI 1)) X dX5_has_12 (by decide) ?_
      refine r_goto (pc := 13) X dX5_has_13 (tgt := 17) (by decide) ?_
      refine r_iret (pc := 17) X dX5_has_17 rfl rfl ?_
      exact ⟨⟨by simp [*, Sv, hasF, b2], rfl⟩, rfl⟩
set_option maxRecDepth 10000 in
set_option maxHeartbeats 4000000 in
theorem e_isAtEnd : ∀ (d : Nat) {h : hp_T} {o : Nat} (S : St h o), Ep d nX5_isAtEnd [.ref o] h (.int (b2 (endF (Sv (h_i h) o)))) := by
  intro d h o S
  refine Ex.of mm_X5_isAtEnd (Nat.le_of_ble_eq_true rfl) fun w κ X hk hnm => ?_
  refine r_aload_n (pc := 0) X dX5_isAtEnd_0 rfl ?_
  refine r_geti (pc := 1) X dX5_isAtEnd_1 tf_5_30 rfl S.c0 rfl ?_
  refine r_bipush (pc := 4) (v := (-5)) X dX5_isAtEnd_4 (by decide) ?_
  refine r_icmp_eq (pc := 6) X dX5_isAtEnd_6 (tgt := 13) (by decide) (fun c6 => ?_) (fun c6 => ?_)
  · refine r_iconst (pc := 13) (v := (nI 0)) X dX5_isAtEnd_13 (by decide) ?_
    refine r_iret (pc := 14) X dX5_isAtEnd_14 rfl rfl ?_
    exact ⟨⟨by simp_all [endF, Sv, b2], rfl⟩, rfl⟩
  · refine r_iconst (pc := 9) (v := (nI 1)) X dX5_isAtEnd_9 (by decide) ?_
    refine r_goto (pc := 10) X dX5_isAtEnd_10 (tgt := 14) (by decide) ?_
    refine r_iret (pc := 14) X dX5_isAtEnd_14 rfl rfl ?_
    exact ⟨⟨by simp_all [endF, Sv, b2], rfl⟩, rfl⟩
set_option maxRecDepth 10000 in
set_option maxHeartbeats 4000000 in
theorem e_holder : ∀ (d : Nat) {h : hp_T} {o : Nat} (S : St h o), Ep d nX5_holder [.ref o] h (.int (holdF (Sv (h_i h) o))) := by
  intro d h o S
  refine Ex.of mm_X5_holder (Nat.le_of_ble_eq_true rfl) fun w κ X hk hnm => ?_
  refine r_aload_n (pc := 0) X dX5_holder_0 rfl ?_
  refine r_geti (pc := 1) X dX5_holder_1 tf_5_40 rfl S.c0 rfl ?_
  refine r_if_ne (pc := 4) X dX5_holder_4 (tgt := 12) (by decide) (fun c4 => ?_) (fun c4 => ?_)
  · refine r_aload_n (pc := 12) X dX5_holder_12 rfl ?_
    refine r_geti (pc := 13) X dX5_holder_13 tf_5_43 rfl S.c0 rfl ?_
    refine r_iret (pc := 16) X dX5_holder_16 rfl rfl ?_
    exact ⟨⟨by simp [*, Sv, holdF], rfl⟩, rfl⟩
  · refine r_bipush (pc := 7) (v := (-5)) X dX5_holder_7 (by decide) ?_
    refine r_goto (pc := 9) X dX5_holder_9 (tgt := 16) (by decide) ?_
    refine r_iret (pc := 16) X dX5_holder_16 rfl rfl ?_
    exact ⟨⟨by simp [*, Sv, holdF], rfl⟩, rfl⟩
set_option maxRecDepth 10000 in
set_option maxHeartbeats 4000000 in
theorem e_bucket : ∀ (d : Nat) {h : hp_T} {o : Nat} (x : Int32) (S : St h o), Ep (d + 1) nX5_bucket [.ref o, .int x] h (.int (buckF (Sv (h_i h) o) x)) := by
  intro d h o x S
  refine Ex.of mm_X5_bucket (Nat.le_of_ble_eq_true rfl) fun w κ X hk hnm => ?_
  refine r_iload_n (pc := 0) X dX5_bucket_0 rfl ?_
  refine sw_X5_bucket_1 X (fun z1 => ?_) (fun z1 => ?_) (fun z1 => ?_)
  · refine r_aload_n (pc := 28) X dX5_bucket_28 rfl ?_
    refine r_c0_0P (pc := 29) X rfl dX5_bucket_29 tc_5_56 mm_X5_holder S.c0 rfl rfl (e_holder d S) (Nat.le_of_ble_eq_true rfl) ?_
    refine r_iret (pc := 32) X dX5_bucket_32 rfl rfl ?_
    exact ⟨⟨by simp [*, Sv, buckF, nI_01], rfl⟩, rfl⟩
  · refine r_aload_n (pc := 33) X dX5_bucket_33 rfl ?_
    refine r_geti (pc := 34) X dX5_bucket_34 tf_5_46 rfl S.c0 rfl ?_
    refine r_iret (pc := 37) X dX5_bucket_37 rfl rfl ?_
    exact ⟨⟨by simp [*, Sv, buckF, nI_01], rfl⟩, rfl⟩
  · refine r_aload_n (pc := 38) X dX5_bucket_38 rfl ?_
    refine r_geti (pc := 39) X dX5_bucket_39 tf_5_30 rfl S.c0 rfl ?_
    refine r_iret (pc := 42) X dX5_bucket_42 rfl rfl ?_
    exact ⟨⟨by simp [*, Sv, buckF, nI_01], rfl⟩, rfl⟩
set_option maxRecDepth 10000 in
set_option maxHeartbeats 4000000 in
theorem e_far : ∀ (d : Nat) {h : hp_T} {o : Nat} {E : EV} (S : St h o) (hE : evC h (h_i h) (h_r h o 11) E), Ep d nX5_far [.ref o] h (.int E.1) := by
  intro d h o E S hE
  refine Ex.of mm_X5_far (Nat.le_of_ble_eq_true rfl) fun w κ X hk hnm => ?_
  rcases hE with ⟨hr, rfl⟩ | ⟨e, c, n, hr, he, hc, hcc, hn, hok, rfl⟩
  · refine r_aload_n (pc := 0) X dX5_far_0 rfl ?_
    refine r_getn (pc := 1) X dX5_far_1 tf_5_52 rfl S.c0 hr ?_
    refine r_ifnonnullN (pc := 4) X dX5_far_4 ?_
    refine r_bipush (pc := 7) (v := (nI 12)) X dX5_far_7 (by decide) ?_
    refine r_goto (pc := 9) X dX5_far_9 (tgt := 19) (by decide) ?_
    refine r_iret (pc := 19) X dX5_far_19 rfl rfl ?_
    exact ⟨⟨rfl, rfl⟩, rfl⟩
  · refine r_aload_n (pc := 0) X dX5_far_0 rfl ?_
    refine r_getr (pc := 1) X dX5_far_1 tf_5_52 rfl S.c0 hr ?_
    refine r_ifnonnull (pc := 4) X dX5_far_4 (tgt := 12) (by decide) he.2.1 ?_
    refine r_aload_n (pc := 12) X dX5_far_12 rfl ?_
    refine r_getr (pc := 13) X dX5_far_13 tf_5_52 rfl S.c0 hr ?_
    refine r_geti (pc := 16) X dX5_far_16 tf_5_60 rfl he rfl ?_
    refine r_iret (pc := 19) X dX5_far_19 rfl rfl ?_
    exact ⟨⟨rfl, rfl⟩, rfl⟩
set_option maxRecDepth 10000 in
set_option maxHeartbeats 4000000 in
theorem e_cost : ∀ (d : Nat) {h : hp_T} {o : Nat} {E : EV} (S : St h o) (hE : evC h (h_i h) (h_r h o 11) E), Ep d nX5_cost [.ref o] h (.int E.2.1) := by
  intro d h o E S hE
  refine Ex.of mm_X5_cost (Nat.le_of_ble_eq_true rfl) fun w κ X hk hnm => ?_
  rcases hE with ⟨hr, rfl⟩ | ⟨e, c, n, hr, he, hc, hcc, hn, hok, rfl⟩
  · refine r_aload_n (pc := 0) X dX5_cost_0 rfl ?_
    refine r_getn (pc := 1) X dX5_cost_1 tf_5_52 rfl S.c0 hr ?_
    refine r_ifnonnullN (pc := 4) X dX5_cost_4 ?_
    refine r_iconst (pc := 7) (v := (nI 5)) X dX5_cost_7 (by decide) ?_
    refine r_goto (pc := 8) X dX5_cost_8 (tgt := 18) (by decide) ?_
    refine r_iret (pc := 18) X dX5_cost_18 rfl rfl ?_
    exact ⟨⟨rfl, rfl⟩, rfl⟩
  · refine r_aload_n (pc := 0) X dX5_cost_0 rfl ?_
    refine r_getr (pc := 1) X dX5_cost_1 tf_5_52 rfl S.c0 hr ?_
    refine r_ifnonnull (pc := 4) X dX5_cost_4 (tgt := 11) (by decide) he.2.1 ?_
    refine r_aload_n (pc := 11) X dX5_cost_11 rfl ?_
    refine r_getr (pc := 12) X dX5_cost_12 tf_5_52 rfl S.c0 hr ?_
    refine r_geti (pc := 15) X dX5_cost_15 tf_5_65 rfl he rfl ?_
    refine r_iret (pc := 18) X dX5_cost_18 rfl rfl ?_
    exact ⟨⟨rfl, rfl⟩, rfl⟩
set_option maxRecDepth 10000 in
set_option maxHeartbeats 4000000 in
theorem e_dread : ∀ (d : Nat) {h : hp_T} {o p : Nat} (S : St h o) (hp : p < 6), Ep d nX5_isDreadfulNow [.ref o, .int (nI p)] h (.int (b2 (dreadF (Sv (h_i h) o) p))) := by
  intro d h o p S hp
  refine Ex.of mm_X5_isDreadfulNow (Nat.le_of_ble_eq_true rfl) fun w κ X hk hnm => ?_
  refine r_aload_n (pc := 0) X dX5_isDreadfulNow_0 rfl ?_
  refine r_getr (pc := 1) X dX5_isDreadfulNow_1 tf_5_15 rfl S.c0 S.r1 ?_
  refine r_iload_n (pc := 4) X dX5_isDreadfulNow_4 rfl ?_
  refine r_iald (pc := 5) X dX5_isDreadfulNow_5 S.a2 rfl (by omega) (by omega) rfl ?_
  refine r_iconst (pc := 6) (v := (nI 2)) X dX5_isDreadfulNow_6 (by decide) ?_
  refine r_iadd (pc := 7) X dX5_isDreadfulNow_7 ?_
  refine r_istore_n (pc := 8) X dX5_isDreadfulNow_8 (Nat.le_of_ble_eq_true rfl) ?_
  refine r_iload_n (pc := 9) X dX5_isDreadfulNow_9 rfl ?_
  refine r_if_le (pc := 10) X dX5_isDreadfulNow_10 (tgt := 26) (by decide) (fun c10 => ?_) (fun c10 => ?_)
  · refine r_iconst (pc := 26) (v := (nI 0)) X dX5_isDreadfulNow_26 (by decide) ?_
    refine r_iret (pc := 27) X dX5_isDreadfulNow_27 rfl rfl ?_
    exact ⟨⟨by simp [*, Sv, dreadF, b2, rem_], rfl⟩, rfl⟩
  · refine r_aload_n (pc := 13) X dX5_isDreadfulNow_13 rfl ?_
    refine r_geti (pc := 14) X dX5_isDreadfulNow_14 tf_5_49 rfl S.c0 rfl ?_
    refine r_iload_n (pc := 17) X dX5_isDreadfulNow_17 rfl ?_
    refine r_irem (pc := 18) X dX5_isDreadfulNow_18 (ne_pos c10) ?_
    refine r_if_ne (pc := 19) X dX5_isDreadfulNow_19 (tgt := 26) (by decide) (fun c19 => ?_) (fun c19 => ?_)
    · refine r_iconst (pc := 26) (v := (nI 0)) X dX5_isDreadfulNow_26 (by decide) ?_
      refine r_iret (pc := 27) X dX5_isDreadfulNow_27 rfl rfl ?_
      exact ⟨⟨by simp [*, Sv, dreadF, b2, rem_], rfl⟩, rfl⟩
    · refine r_iconst (pc := 22) (v := (nI 1)) X dX5_isDreadfulNow_22 (by decide) ?_
      refine r_goto (pc := 23) X dX5_isDreadfulNow_23 (tgt := 27) (by decide) ?_
      refine r_iret (pc := 27) X dX5_isDreadfulNow_27 rfl rfl ?_
      exact ⟨⟨by simp [*, Sv, dreadF, b2, rem_], rfl⟩, rfl⟩
set_option maxRecDepth 10000 in
set_option maxHeartbeats 4000000 in
theorem e_reach : ∀ (d : Nat) {h : hp_T} {o p : Nat} {E : EV} {B : Nat} (S : St h o) (hE : evC h (h_i h) (h_r h o 11) E) (hW : WF B (Sv (h_i h) o)) (hp : p < 6), Ep (d + 1) nX5_reach [.ref o, .int (nI p)] h (.int (reachF E (Sv (h_i h) o) p)) := by
  intro d h o p E B S hE hW hp
  refine Ex.of mm_X5_reach (Nat.le_of_ble_eq_true rfl) fun w κ X hk hnm => ?_
  refine r_iconst (pc := 0) (v := (nI 0)) X dX5_reach_0 (by decide) ?_
  refine r_aload_n (pc := 1) X dX5_reach_1 rfl ?_
  refine r_c0_0P (pc := 2) X rfl dX5_reach_2 tc_5_72 mm_X5_far S.c0 rfl rfl (e_far d S hE) (Nat.le_of_ble_eq_true rfl) ?_
  refine r_aload_n (pc := 5) X dX5_reach_5 rfl ?_
  refine r_geti (pc := 6) X dX5_reach_6 tf_5_46 rfl S.c0 rfl ?_
  refine r_bipush (pc := 9) (v := (nI 8)) X dX5_reach_9 (by decide) ?_
  refine r_idiv (pc := 11) X dX5_reach_11 (by decide) ?_
  refine r_isub (pc := 12) X dX5_reach_12 ?_
  refine r_max (pc := 13) X rfl dX5_reach_13 tx_5_74 (Nat.le_of_ble_eq_true rfl) ?_
  refine r_istore_n (pc := 16) X dX5_reach_16 (Nat.le_of_ble_eq_true rfl) ?_
  refine r_iconst (pc := 17) (v := (nI 0)) X dX5_reach_17 (by decide) ?_
  refine r_iload_n (pc := 18) X dX5_reach_18 rfl ?_
  refine r_aload_n (pc := 19) X dX5_reach_19 rfl ?_
  refine r_getr (pc := 20) X dX5_reach_20 tf_5_15 rfl S.c0 S.r1 ?_
  refine r_iload_n (pc := 23) X dX5_reach_23 rfl ?_
  refine r_iald (pc := 24) X dX5_reach_24 S.a2 rfl (by omega) (by omega) rfl ?_
  refine r_iconst (pc := 25) (v := (nI 2)) X dX5_reach_25 (by decide) ?_
  refine r_idiv (pc := 26) X dX5_reach_26 (by decide) ?_
  refine r_isub (pc := 27) X dX5_reach_27 ?_
  refine r_max (pc := 28) X rfl dX5_reach_28 tx_5_74 (Nat.le_of_ble_eq_true rfl) ?_
  refine r_istore_n (pc := 31) X dX5_reach_31 (Nat.le_of_ble_eq_true rfl) ?_
  refine r_aload_n (pc := 32) X dX5_reach_32 rfl ?_
  refine r_getr (pc := 33) X dX5_reach_33 tf_5_9 rfl S.c0 S.r0 ?_
  refine r_iload_n (pc := 36) X dX5_reach_36 rfl ?_
  refine r_iald (pc := 37) X dX5_reach_37 S.a1 rfl (by omega) (by omega) rfl ?_
  refine sw_X5_reach_38 X (fun z38 => ?_) (fun z38 => ?_) (fun z38 => ?_) (fun z38 => ?_) (fun z38 => ?_) (fun z38 => ?_)
  · refine r_iload_n (pc := 76) X dX5_reach_76 rfl ?_
    refine r_iret (pc := 77) X dX5_reach_77 rfl rfl ?_
    exact ⟨⟨by simp_all [Sv, reachF, oldF, plainF, mx, b2_z, nI_16], rfl⟩, rfl⟩
  · refine r_iload_n (pc := 82) X dX5_reach_82 rfl ?_
    refine r_iconst (pc := 83) (v := (nI 2)) X dX5_reach_83 (by decide) ?_
    refine r_iadd (pc := 84) X dX5_reach_84 ?_
    refine r_iret (pc := 85) X dX5_reach_85 rfl rfl ?_
    exact ⟨⟨by simp_all [Sv, reachF, oldF, plainF, mx, b2_z, nI_16], rfl⟩, rfl⟩
  · refine r_iload_n (pc := 78) X dX5_reach_78 rfl ?_
    refine r_iconst (pc := 79) (v := (nI 2)) X dX5_reach_79 (by decide) ?_
    refine r_idiv (pc := 80) X dX5_reach_80 (by decide) ?_
    refine r_iret (pc := 81) X dX5_reach_81 rfl rfl ?_
    exact ⟨⟨by simp_all [Sv, reachF, oldF, plainF, mx, b2_z, nI_16], rfl⟩, rfl⟩
  · refine r_aload_n (pc := 86) X dX5_reach_86 rfl ?_
    refine r_iload_n (pc := 87) X dX5_reach_87 rfl ?_
    refine r_c0_1P (pc := 88) X rfl dX5_reach_88 tc_5_80 mm_X5_isDreadfulNow S.c0 rfl rfl (e_dread d S hp) (Nat.le_of_ble_eq_true rfl) ?_
    refine r_if_eq (pc := 91) X dX5_reach_91 (tgt := 98) (by decide) (fun c91 => ?_) (fun c91 => ?_)
    · refine r_iload_n (pc := 98) X dX5_reach_98 rfl ?_
      refine r_iconst (pc := 99) (v := (nI 2)) X dX5_reach_99 (by decide) ?_
      refine r_iadd (pc := 100) X dX5_reach_100 ?_
      refine r_iret (pc := 101) X dX5_reach_101 rfl rfl ?_
      exact ⟨⟨by simp_all [Sv, reachF, oldF, plainF, mx, b2_z, nI_16], rfl⟩, rfl⟩
    · refine r_iconst (pc := 94) (v := (nI 0)) X dX5_reach_94 (by decide) ?_
      refine r_goto (pc := 95) X dX5_reach_95 (tgt := 101) (by decide) ?_
      refine r_iret (pc := 101) X dX5_reach_101 rfl rfl ?_
      exact ⟨⟨by simp_all [Sv, reachF, oldF, plainF, mx, b2_z, nI_16], rfl⟩, rfl⟩
  · refine r_iload_n (pc := 102) X dX5_reach_102 rfl ?_
    refine r_aload_n (pc := 103) X dX5_reach_103 rfl ?_
    refine r_getr (pc := 104) X dX5_reach_104 tf_5_27 rfl S.c0 S.r5 ?_
    refine r_iload_n (pc := 107) X dX5_reach_107 rfl ?_
    refine r_iconst (pc := 108) (v := (nI 4)) X dX5_reach_108 (by decide) ?_
    refine r_imul (pc := 109) X dX5_reach_109 ?_
    refine r_aload_n (pc := 110) X dX5_reach_110 rfl ?_
    refine r_geti (pc := 111) X dX5_reach_111 tf_5_49 rfl S.c0 rfl ?_
    refine r_iconst (pc := 114) (v := (nI 4)) X dX5_reach_114 (by decide) ?_
    refine r_irem (pc := 115) X dX5_reach_115 (by decide) ?_
    refine r_iadd (pc := 116) X dX5_reach_116 ?_
    refine r_top (row_ix hW hp) ?_
    refine r_iald (pc := 117) X dX5_reach_117 S.a6 rfl (idx_row hW hp) (by decide) rfl ?_
    refine r_iadd (pc := 118) X dX5_reach_118 ?_
    refine r_iret (pc := 119) X dX5_reach_119 rfl rfl ?_
    exact ⟨⟨by simp_all [Sv, reachF, oldF, plainF, mx, b2_z, nI_16], rfl⟩, rfl⟩
  · refine r_iload_n (pc := 120) X dX5_reach_120 rfl ?_
    refine r_iret (pc := 121) X dX5_reach_121 rfl rfl ?_
    exact ⟨⟨by simp_all [Sv, reachF, oldF, plainF, mx, b2_z, nI_16], rfl⟩, rfl⟩
set_option maxRecDepth 10000 in
set_option maxHeartbeats 4000000 in
theorem l_near : ∀ (d : Nat) {h : hp_T} {o p P : Nat} (S : St h o) (hP : h_i h o 6 = nI P) (hP6 : P ≤ 6) (hp : p < 6) {w : wc_T} {κ : cx_T} {Φ : Option Value → hp_T → Prop} (X : CX w κ (d + 2) 5 cX5_nearest 4 (some .int) Φ) (hΦ : Φ (some (.int (enc5 (nearK (Sv (h_i h) o) p P)))) h), ∀ n k : Nat, k + n = P → GG w κ 5 [some (.ref o), some (.int (nI p)), some (.int (enc5 (nearK (Sv (h_i h) o) p k))), some (.int (nI k))] [] h := by
  intro d h o p P S hP hP6 hp w κ Φ X hΦ n
  induction n with
  | zero =>
    intro k hk
    have hkP : k = P := by omega
    subst hkP
    refine r_iload_n (pc := 5) X dX5_nearest_5 rfl ?_
    refine r_aload_n (pc := 6) X dX5_nearest_6 rfl ?_
    refine r_geti (pc := 7) X dX5_nearest_7 tf_5_40 rfl S.c0 hP ?_
    refine r_icmp_geN (pc := 10) X dX5_nearest_10 (tgt := 47) (by decide) (by omega) (by omega) (fun c10 => ?_) (fun c10 => ?_)
    · refine r_iload_n (pc := 47) X dX5_nearest_47 rfl ?_
      refine r_iret (pc := 48) X dX5_nearest_48 rfl rfl ?_
      exact hΦ
    · exact absurd (Nat.le_refl _) c10
  | succ n ih =>
    intro k hk
    have ih := ih (k + 1) (by omega)
    cases hb : nearK (Sv (h_i h) o) p k with
    | none =>
      refine r_iload_n (pc := 5) X dX5_nearest_5 rfl ?_
      refine r_aload_n (pc := 6) X dX5_nearest_6 rfl ?_
      refine r_geti (pc := 7) X dX5_nearest_7 tf_5_40 rfl S.c0 hP ?_
      refine r_icmp_geN (pc := 10) X dX5_nearest_10 (tgt := 47) (by decide) (by omega) (by omega) (fun c10 => ?_) (fun c10 => ?_)
      · exact absurd c10 (by omega)
      · refine r_iload_n (pc := 13) X dX5_nearest_13 rfl ?_
        refine r_iload_n (pc := 14) X dX5_nearest_14 rfl ?_
        refine r_icmp_eqN (pc := 15) X dX5_nearest_15 (tgt := 41) (by decide) (by omega) (by omega) (fun c15 => ?_) (fun c15 => ?_)
        · refine r_iinc (pc := 41) X dX5_nearest_41 rfl (by first | exact nI_i1 _ | rfl) ?_
          refine r_goto (pc := 44) X dX5_nearest_44 (tgt := 5) (by decide) ?_
          first
            | (have e : enc5 (nearK (Sv (h_i h) o) p (k + 1)) = (-5) := by
                rw [show nearK (Sv (h_i h) o) p (k + 1) = _ from bestO_n hb]
                simp [*, enc5]
               rw [e] at ih
               exact ih)
            | (have e : enc5 (nearK (Sv (h_i h) o) p (k + 1)) = nI k := by
                rw [show nearK (Sv (h_i h) o) p (k + 1) = _ from bestO_n hb]
                simp [*, enc5]
               rw [e] at ih
               exact ih)
        · refine r_iload_n (pc := 18) X dX5_nearest_18 rfl ?_
          refine r_bipush (pc := 19) (v := (-5)) X dX5_nearest_19 (by decide) ?_
          refine r_icmp_eq (pc := 21) X dX5_nearest_21 (tgt := 39) (by decide) (fun c21 => ?_) (fun c21 => ?_)
          · refine r_iload_n (pc := 39) X dX5_nearest_39 rfl ?_
            refine r_istore_n (pc := 40) X dX5_nearest_40 (Nat.le_of_ble_eq_true rfl) ?_
            refine r_iinc (pc := 41) X dX5_nearest_41 rfl (by first | exact nI_i1 _ | rfl) ?_
            refine r_goto (pc := 44) X dX5_nearest_44 (tgt := 5) (by decide) ?_
            first
              | (have e : enc5 (nearK (Sv (h_i h) o) p (k + 1)) = (-5) := by
                  rw [show nearK (Sv (h_i h) o) p (k + 1) = _ from bestO_n hb]
                  simp [*, enc5]
                 rw [e] at ih
                 exact ih)
              | (have e : enc5 (nearK (Sv (h_i h) o) p (k + 1)) = nI k := by
                  rw [show nearK (Sv (h_i h) o) p (k + 1) = _ from bestO_n hb]
                  simp [*, enc5]
                 rw [e] at ih
                 exact ih)
          · exact absurd rfl c21
    | some b =>
      have hbk : b < k := bestO_lt hb
      refine r_iload_n (pc := 5) X dX5_nearest_5 rfl ?_
      refine r_aload_n (pc := 6) X dX5_nearest_6 rfl ?_
      refine r_geti (pc := 7) X dX5_nearest_7 tf_5_40 rfl S.c0 hP ?_
      refine r_icmp_geN (pc := 10) X dX5_nearest_10 (tgt := 47) (by decide) (by omega) (by omega) (fun c10 => ?_) (fun c10 => ?_)
      · exact absurd c10 (by omega)
      · refine r_iload_n (pc := 13) X dX5_nearest_13 rfl ?_
        refine r_iload_n (pc := 14) X dX5_nearest_14 rfl ?_
        refine r_icmp_eqN (pc := 15) X dX5_nearest_15 (tgt := 41) (by decide) (by omega) (by omega) (fun c15 => ?_) (fun c15 => ?_)
        · refine r_iinc (pc := 41) X dX5_nearest_41 rfl (by first | exact nI_i1 _ | rfl) ?_
          refine r_goto (pc := 44) X dX5_nearest_44 (tgt := 5) (by decide) ?_
          first
            | (have e : enc5 (nearK (Sv (h_i h) o) p (k + 1)) = (nI b) := by
                rw [show nearK (Sv (h_i h) o) p (k + 1) = _ from bestO_s hb]
                simp [*, enc5]
               rw [e] at ih
               exact ih)
            | (have e : enc5 (nearK (Sv (h_i h) o) p (k + 1)) = nI k := by
                rw [show nearK (Sv (h_i h) o) p (k + 1) = _ from bestO_s hb]
                simp [*, enc5]
               rw [e] at ih
               exact ih)
        · refine r_iload_n (pc := 18) X dX5_nearest_18 rfl ?_
          refine r_bipush (pc := 19) (v := (-5)) X dX5_nearest_19 (by decide) ?_
          refine r_icmp_eq (pc := 21) X dX5_nearest_21 (tgt := 39) (by decide) (fun c21 => ?_) (fun c21 => ?_)
          · exact absurd c21 (nI_ne5 (by omega))
          · refine r_aload_n (pc := 24) X dX5_nearest_24 rfl ?_
            refine r_iload_n (pc := 25) X dX5_nearest_25 rfl ?_
            refine r_iload_n (pc := 26) X dX5_nearest_26 rfl ?_
            refine r_c0_2P (pc := 27) X rfl dX5_nearest_27 tc_5_100 mm_X5_way S.c0 rfl rfl (e_way d S hp (by omega)) (Nat.le_of_ble_eq_true rfl) ?_
            refine r_aload_n (pc := 30) X dX5_nearest_30 rfl ?_
            refine r_iload_n (pc := 31) X dX5_nearest_31 rfl ?_
            refine r_iload_n (pc := 32) X dX5_nearest_32 rfl ?_
            refine r_c0_2P (pc := 33) X rfl dX5_nearest_33 tc_5_100 mm_X5_way S.c0 rfl rfl (e_way d S hp (by omega)) (Nat.le_of_ble_eq_true rfl) ?_
            refine r_icmp_ge (pc := 36) X dX5_nearest_36 (tgt := 41) (by decide) (fun c36 => ?_) (fun c36 => ?_)
            · refine r_iinc (pc := 41) X dX5_nearest_41 rfl (by first | exact nI_i1 _ | rfl) ?_
              refine r_goto (pc := 44) X dX5_nearest_44 (tgt := 5) (by decide) ?_
              first
                | (have e : enc5 (nearK (Sv (h_i h) o) p (k + 1)) = (nI b) := by
                    rw [show nearK (Sv (h_i h) o) p (k + 1) = _ from bestO_s hb]
                    simp [*, enc5]
                   rw [e] at ih
                   exact ih)
                | (have e : enc5 (nearK (Sv (h_i h) o) p (k + 1)) = nI k := by
                    rw [show nearK (Sv (h_i h) o) p (k + 1) = _ from bestO_s hb]
                    simp [*, enc5]
                   rw [e] at ih
                   exact ih)
            · refine r_iload_n (pc := 39) X dX5_nearest_39 rfl ?_
              refine r_istore_n (pc := 40) X dX5_nearest_40 (Nat.le_of_ble_eq_true rfl) ?_
              refine r_iinc (pc := 41) X dX5_nearest_41 rfl (by first | exact nI_i1 _ | rfl) ?_
              refine r_goto (pc := 44) X dX5_nearest_44 (tgt := 5) (by decide) ?_
              first
                | (have e : enc5 (nearK (Sv (h_i h) o) p (k + 1)) = (nI b) := by
                    rw [show nearK (Sv (h_i h) o) p (k + 1) = _ from bestO_s hb]
                    simp [*, enc5]
                   rw [e] at ih
                   exact ih)
                | (have e : enc5 (nearK (Sv (h_i h) o) p (k + 1)) = nI k := by
                    rw [show nearK (Sv (h_i h) o) p (k + 1) = _ from bestO_s hb]
                    simp [*, enc5]
                   rw [e] at ih
                   exact ih)
set_option maxRecDepth 10000 in
set_option maxHeartbeats 4000000 in
theorem l_farw : ∀ (d : Nat) {h : hp_T} {o p P : Nat} {x : Int32} (S : St h o) (hP : h_i h o 6 = nI P) (hP6 : P ≤ 6) (hp : p < 6) {w : wc_T} {κ : cx_T} {Φ : Option Value → hp_T → Prop} (X : CX w κ (d + 2) 5 cX5_farthestWithin 5 (some .int) Φ) (hΦ : Φ (some (.int (enc5 (farK (Sv (h_i h) o) p x P)))) h), ∀ n k : Nat, k + n = P → GG w κ 6 [some (.ref o), some (.int (nI p)), some (.int x), some (.int (enc5 (farK (Sv (h_i h) o) p x k))), some (.int (nI k))] [] h := by
  intro d h o p P x S hP hP6 hp w κ Φ X hΦ n
  induction n with
  | zero =>
    intro k hk
    have hkP : k = P := by omega
    subst hkP
    refine r_iload (pc := 6) X dX5_farthestWithin_6 rfl ?_
    refine r_aload_n (pc := 8) X dX5_farthestWithin_8 rfl ?_
    refine r_geti (pc := 9) X dX5_farthestWithin_9 tf_5_40 rfl S.c0 hP ?_
    refine r_icmp_geN (pc := 12) X dX5_farthestWithin_12 (tgt := 63) (by decide) (by omega) (by omega) (fun c12 => ?_) (fun c12 => ?_)
    · refine r_iload_n (pc := 63) X dX5_farthestWithin_63 rfl ?_
      refine r_iret (pc := 64) X dX5_farthestWithin_64 rfl rfl ?_
      exact hΦ
    · exact absurd (Nat.le_refl _) c12
  | succ n ih =>
    intro k hk
    have ih := ih (k + 1) (by omega)
    cases hb : farK (Sv (h_i h) o) p x k with
    | none =>
      refine r_iload (pc := 6) X dX5_farthestWithin_6 rfl ?_
      refine r_aload_n (pc := 8) X dX5_farthestWithin_8 rfl ?_
      refine r_geti (pc := 9) X dX5_farthestWithin_9 tf_5_40 rfl S.c0 hP ?_
      refine r_icmp_geN (pc := 12) X dX5_farthestWithin_12 (tgt := 63) (by decide) (by omega) (by omega) (fun c12 => ?_) (fun c12 => ?_)
      · exact absurd c12 (by omega)
      · refine r_iload (pc := 15) X dX5_farthestWithin_15 rfl ?_
        refine r_iload_n (pc := 17) X dX5_farthestWithin_17 rfl ?_
        refine r_icmp_eqN (pc := 18) X dX5_farthestWithin_18 (tgt := 57) (by decide) (by omega) (by omega) (fun c18 => ?_) (fun c18 => ?_)
        · refine r_iinc (pc := 57) X dX5_farthestWithin_57 rfl (by first | exact nI_i1 _ | rfl) ?_
          refine r_goto (pc := 60) X dX5_farthestWithin_60 (tgt := 6) (by decide) ?_
          first
            | (have e : enc5 (farK (Sv (h_i h) o) p x (k + 1)) = (-5) := by
                rw [show farK (Sv (h_i h) o) p x (k + 1) = _ from bestO_n hb]
                simp [*, enc5]
               rw [e] at ih
               exact ih)
            | (have e : enc5 (farK (Sv (h_i h) o) p x (k + 1)) = nI k := by
                rw [show farK (Sv (h_i h) o) p x (k + 1) = _ from bestO_n hb]
                simp [*, enc5]
               rw [e] at ih
               exact ih)
        · refine r_aload_n (pc := 21) X dX5_farthestWithin_21 rfl ?_
          refine r_iload_n (pc := 22) X dX5_farthestWithin_22 rfl ?_
          refine r_iload (pc := 23) X dX5_farthestWithin_23 rfl ?_
          refine r_c0_2P (pc := 25) X rfl dX5_farthestWithin_25 tc_5_100 mm_X5_way S.c0 rfl rfl (e_way d S hp (by omega)) (Nat.le_of_ble_eq_true rfl) ?_
          refine r_iload_n (pc := 28) X dX5_farthestWithin_28 rfl ?_
          refine r_icmp_gt (pc := 29) X dX5_farthestWithin_29 (tgt := 57) (by decide) (fun c29 => ?_) (fun c29 => ?_)
          · refine r_iinc (pc := 57) X dX5_farthestWithin_57 rfl (by first | exact nI_i1 _ | rfl) ?_
            refine r_goto (pc := 60) X dX5_farthestWithin_60 (tgt := 6) (by decide) ?_
            first
              | (have e : enc5 (farK (Sv (h_i h) o) p x (k + 1)) = (-5) := by
                  rw [show farK (Sv (h_i h) o) p x (k + 1) = _ from bestO_n hb]
                  simp [*, enc5]
                 rw [e] at ih
                 exact ih)
              | (have e : enc5 (farK (Sv (h_i h) o) p x (k + 1)) = nI k := by
                  rw [show farK (Sv (h_i h) o) p x (k + 1) = _ from bestO_n hb]
                  simp [*, enc5]
                 rw [e] at ih
                 exact ih)
          · refine r_iload_n (pc := 32) X dX5_farthestWithin_32 rfl ?_
            refine r_bipush (pc := 33) (v := (-5)) X dX5_farthestWithin_33 (by decide) ?_
            refine r_icmp_eq (pc := 35) X dX5_farthestWithin_35 (tgt := 54) (by decide) (fun c35 => ?_) (fun c35 => ?_)
            · refine r_iload (pc := 54) X dX5_farthestWithin_54 rfl ?_
              refine r_istore_n (pc := 56) X dX5_farthestWithin_56 (Nat.le_of_ble_eq_true rfl) ?_
              refine r_iinc (pc := 57) X dX5_farthestWithin_57 rfl (by first | exact nI_i1 _ | rfl) ?_
              refine r_goto (pc := 60) X dX5_farthestWithin_60 (tgt := 6) (by decide) ?_
              first
                | (have e : enc5 (farK (Sv (h_i h) o) p x (k + 1)) = (-5) := by
                    rw [show farK (Sv (h_i h) o) p x (k + 1) = _ from bestO_n hb]
                    simp [*, enc5]
                   rw [e] at ih
                   exact ih)
                | (have e : enc5 (farK (Sv (h_i h) o) p x (k + 1)) = nI k := by
                    rw [show farK (Sv (h_i h) o) p x (k + 1) = _ from bestO_n hb]
                    simp [*, enc5]
                   rw [e] at ih
                   exact ih)
            · exact absurd rfl c35
    | some b =>
      have hbk : b < k := bestO_lt hb
      refine r_iload (pc := 6) X dX5_farthestWithin_6 rfl ?_
      refine r_aload_n (pc := 8) X dX5_farthestWithin_8 rfl ?_
      refine r_geti (pc := 9) X dX5_farthestWithin_9 tf_5_40 rfl S.c0 hP ?_
      refine r_icmp_geN (pc := 12) X dX5_farthestWithin_12 (tgt := 63) (by decide) (by omega) (by omega) (fun c12 => ?_) (fun c12 => ?_)
      · exact absurd c12 (by omega)
      · refine r_iload (pc := 15) X dX5_farthestWithin_15 rfl ?_
        refine r_iload_n (pc := 17) X dX5_farthestWithin_17 rfl ?_
        refine r_icmp_eqN (pc := 18) X dX5_farthestWithin_18 (tgt := 57) (by decide) (by omega) (by omega) (fun c18 => ?_) (fun c18 => ?_)
        · refine r_iinc (pc := 57) X dX5_farthestWithin_57 rfl (by first | exact nI_i1 _ | rfl) ?_
          refine r_goto (pc := 60) X dX5_farthestWithin_60 (tgt := 6) (by decide) ?_
          first
            | (have e : enc5 (farK (Sv (h_i h) o) p x (k + 1)) = (nI b) := by
                rw [show farK (Sv (h_i h) o) p x (k + 1) = _ from bestO_s hb]
                simp [*, enc5]
               rw [e] at ih
               exact ih)
            | (have e : enc5 (farK (Sv (h_i h) o) p x (k + 1)) = nI k := by
                rw [show farK (Sv (h_i h) o) p x (k + 1) = _ from bestO_s hb]
                simp [*, enc5]
               rw [e] at ih
               exact ih)
        · refine r_aload_n (pc := 21) X dX5_farthestWithin_21 rfl ?_
          refine r_iload_n (pc := 22) X dX5_farthestWithin_22 rfl ?_
          refine r_iload (pc := 23) X dX5_farthestWithin_23 rfl ?_
          refine r_c0_2P (pc := 25) X rfl dX5_farthestWithin_25 tc_5_100 mm_X5_way S.c0 rfl rfl (e_way d S hp (by omega)) (Nat.le_of_ble_eq_true rfl) ?_
          refine r_iload_n (pc := 28) X dX5_farthestWithin_28 rfl ?_
          refine r_icmp_gt (pc := 29) X dX5_farthestWithin_29 (tgt := 57) (by decide) (fun c29 => ?_) (fun c29 => ?_)
          · refine r_iinc (pc := 57) X dX5_farthestWithin_57 rfl (by first | exact nI_i1 _ | rfl) ?_
            refine r_goto (pc := 60) X dX5_farthestWithin_60 (tgt := 6) (by decide) ?_
            first
              | (have e : enc5 (farK (Sv (h_i h) o) p x (k + 1)) = (nI b) := by
                  rw [show farK (Sv (h_i h) o) p x (k + 1) = _ from bestO_s hb]
                  simp [*, enc5]
                 rw [e] at ih
                 exact ih)
              | (have e : enc5 (farK (Sv (h_i h) o) p x (k + 1)) = nI k := by
                  rw [show farK (Sv (h_i h) o) p x (k + 1) = _ from bestO_s hb]
                  simp [*, enc5]
                 rw [e] at ih
                 exact ih)
          · refine r_iload_n (pc := 32) X dX5_farthestWithin_32 rfl ?_
            refine r_bipush (pc := 33) (v := (-5)) X dX5_farthestWithin_33 (by decide) ?_
            refine r_icmp_eq (pc := 35) X dX5_farthestWithin_35 (tgt := 54) (by decide) (fun c35 => ?_) (fun c35 => ?_)
            · exact absurd c35 (nI_ne5 (by omega))
            · refine r_aload_n (pc := 38) X dX5_farthestWithin_38 rfl ?_
              refine r_iload_n (pc := 39) X dX5_farthestWithin_39 rfl ?_
              refine r_iload (pc := 40) X dX5_farthestWithin_40 rfl ?_
              refine r_c0_2P (pc := 42) X rfl dX5_farthestWithin_42 tc_5_100 mm_X5_way S.c0 rfl rfl (e_way d S hp (by omega)) (Nat.le_of_ble_eq_true rfl) ?_
              refine r_aload_n (pc := 45) X dX5_farthestWithin_45 rfl ?_
              refine r_iload_n (pc := 46) X dX5_farthestWithin_46 rfl ?_
              refine r_iload_n (pc := 47) X dX5_farthestWithin_47 rfl ?_
              refine r_c0_2P (pc := 48) X rfl dX5_farthestWithin_48 tc_5_100 mm_X5_way S.c0 rfl rfl (e_way d S hp (by omega)) (Nat.le_of_ble_eq_true rfl) ?_
              refine r_icmp_le (pc := 51) X dX5_farthestWithin_51 (tgt := 57) (by decide) (fun c51 => ?_) (fun c51 => ?_)
              · refine r_iinc (pc := 57) X dX5_farthestWithin_57 rfl (by first | exact nI_i1 _ | rfl) ?_
                refine r_goto (pc := 60) X dX5_farthestWithin_60 (tgt := 6) (by decide) ?_
                first
                  | (have e : enc5 (farK (Sv (h_i h) o) p x (k + 1)) = (nI b) := by
                      rw [show farK (Sv (h_i h) o) p x (k + 1) = _ from bestO_s hb]
                      simp [*, enc5]
                     rw [e] at ih
                     exact ih)
                  | (have e : enc5 (farK (Sv (h_i h) o) p x (k + 1)) = nI k := by
                      rw [show farK (Sv (h_i h) o) p x (k + 1) = _ from bestO_s hb]
                      simp [*, enc5]
                     rw [e] at ih
                     exact ih)
              · refine r_iload (pc := 54) X dX5_farthestWithin_54 rfl ?_
                refine r_istore_n (pc := 56) X dX5_farthestWithin_56 (Nat.le_of_ble_eq_true rfl) ?_
                refine r_iinc (pc := 57) X dX5_farthestWithin_57 rfl (by first | exact nI_i1 _ | rfl) ?_
                refine r_goto (pc := 60) X dX5_farthestWithin_60 (tgt := 6) (by decide) ?_
                first
                  | (have e : enc5 (farK (Sv (h_i h) o) p x (k + 1)) = (nI b) := by
                      rw [show farK (Sv (h_i h) o) p x (k + 1) = _ from bestO_s hb]
                      simp [*, enc5]
                     rw [e] at ih
                     exact ih)
                  | (have e : enc5 (farK (Sv (h_i h) o) p x (k + 1)) = nI k := by
                      rw [show farK (Sv (h_i h) o) p x (k + 1) = _ from bestO_s hb]
                      simp [*, enc5]
                     rw [e] at ih
                     exact ih)
set_option maxRecDepth 10000 in
set_option maxHeartbeats 4000000 in
theorem l_hope : ∀ (d : Nat) {h : hp_T} {o p P : Nat} (S : St h o) (hP : h_i h o 6 = nI P) (hP6 : P ≤ 6) (hp : p < 6) {w : wc_T} {κ : cx_T} {Φ : Option Value → hp_T → Prop} (X : CX w κ (d) 5 cX5_mostHopeful 4 (some .int) Φ) (hΦ : Φ (some (.int (enc5 (hopeK (Sv (h_i h) o) p P)))) h), ∀ n k : Nat, k + n = P → GG w κ 5 [some (.ref o), some (.int (nI p)), some (.int (enc5 (hopeK (Sv (h_i h) o) p k))), some (.int (nI k))] [] h := by
  intro d h o p P S hP hP6 hp w κ Φ X hΦ n
  induction n with
  | zero =>
    intro k hk
    have hkP : k = P := by omega
    subst hkP
    refine r_iload_n (pc := 5) X dX5_mostHopeful_5 rfl ?_
    refine r_aload_n (pc := 6) X dX5_mostHopeful_6 rfl ?_
    refine r_geti (pc := 7) X dX5_mostHopeful_7 tf_5_40 rfl S.c0 hP ?_
    refine r_icmp_geN (pc := 10) X dX5_mostHopeful_10 (tgt := 47) (by decide) (by omega) (by omega) (fun c10 => ?_) (fun c10 => ?_)
    · refine r_iload_n (pc := 47) X dX5_mostHopeful_47 rfl ?_
      refine r_iret (pc := 48) X dX5_mostHopeful_48 rfl rfl ?_
      exact hΦ
    · exact absurd (Nat.le_refl _) c10
  | succ n ih =>
    intro k hk
    have ih := ih (k + 1) (by omega)
    cases hb : hopeK (Sv (h_i h) o) p k with
    | none =>
      refine r_iload_n (pc := 5) X dX5_mostHopeful_5 rfl ?_
      refine r_aload_n (pc := 6) X dX5_mostHopeful_6 rfl ?_
      refine r_geti (pc := 7) X dX5_mostHopeful_7 tf_5_40 rfl S.c0 hP ?_
      refine r_icmp_geN (pc := 10) X dX5_mostHopeful_10 (tgt := 47) (by decide) (by omega) (by omega) (fun c10 => ?_) (fun c10 => ?_)
      · exact absurd c10 (by omega)
      · refine r_iload_n (pc := 13) X dX5_mostHopeful_13 rfl ?_
        refine r_iload_n (pc := 14) X dX5_mostHopeful_14 rfl ?_
        refine r_icmp_eqN (pc := 15) X dX5_mostHopeful_15 (tgt := 41) (by decide) (by omega) (by omega) (fun c15 => ?_) (fun c15 => ?_)
        · refine r_iinc (pc := 41) X dX5_mostHopeful_41 rfl (by first | exact nI_i1 _ | rfl) ?_
          refine r_goto (pc := 44) X dX5_mostHopeful_44 (tgt := 5) (by decide) ?_
          first
            | (have e : enc5 (hopeK (Sv (h_i h) o) p (k + 1)) = (-5) := by
                rw [show hopeK (Sv (h_i h) o) p (k + 1) = _ from bestO_n hb]
                simp [*, enc5, Sv]
               rw [e] at ih
               exact ih)
            | (have e : enc5 (hopeK (Sv (h_i h) o) p (k + 1)) = nI k := by
                rw [show hopeK (Sv (h_i h) o) p (k + 1) = _ from bestO_n hb]
                simp [*, enc5, Sv]
               rw [e] at ih
               exact ih)
        · refine r_iload_n (pc := 18) X dX5_mostHopeful_18 rfl ?_
          refine r_bipush (pc := 19) (v := (-5)) X dX5_mostHopeful_19 (by decide) ?_
          refine r_icmp_eq (pc := 21) X dX5_mostHopeful_21 (tgt := 39) (by decide) (fun c21 => ?_) (fun c21 => ?_)
          · refine r_iload_n (pc := 39) X dX5_mostHopeful_39 rfl ?_
            refine r_istore_n (pc := 40) X dX5_mostHopeful_40 (Nat.le_of_ble_eq_true rfl) ?_
            refine r_iinc (pc := 41) X dX5_mostHopeful_41 rfl (by first | exact nI_i1 _ | rfl) ?_
            refine r_goto (pc := 44) X dX5_mostHopeful_44 (tgt := 5) (by decide) ?_
            first
              | (have e : enc5 (hopeK (Sv (h_i h) o) p (k + 1)) = (-5) := by
                  rw [show hopeK (Sv (h_i h) o) p (k + 1) = _ from bestO_n hb]
                  simp [*, enc5, Sv]
                 rw [e] at ih
                 exact ih)
              | (have e : enc5 (hopeK (Sv (h_i h) o) p (k + 1)) = nI k := by
                  rw [show hopeK (Sv (h_i h) o) p (k + 1) = _ from bestO_n hb]
                  simp [*, enc5, Sv]
                 rw [e] at ih
                 exact ih)
          · exact absurd rfl c21
    | some b =>
      have hbk : b < k := bestO_lt hb
      refine r_iload_n (pc := 5) X dX5_mostHopeful_5 rfl ?_
      refine r_aload_n (pc := 6) X dX5_mostHopeful_6 rfl ?_
      refine r_geti (pc := 7) X dX5_mostHopeful_7 tf_5_40 rfl S.c0 hP ?_
      refine r_icmp_geN (pc := 10) X dX5_mostHopeful_10 (tgt := 47) (by decide) (by omega) (by omega) (fun c10 => ?_) (fun c10 => ?_)
      · exact absurd c10 (by omega)
      · refine r_iload_n (pc := 13) X dX5_mostHopeful_13 rfl ?_
        refine r_iload_n (pc := 14) X dX5_mostHopeful_14 rfl ?_
        refine r_icmp_eqN (pc := 15) X dX5_mostHopeful_15 (tgt := 41) (by decide) (by omega) (by omega) (fun c15 => ?_) (fun c15 => ?_)
        · refine r_iinc (pc := 41) X dX5_mostHopeful_41 rfl (by first | exact nI_i1 _ | rfl) ?_
          refine r_goto (pc := 44) X dX5_mostHopeful_44 (tgt := 5) (by decide) ?_
          first
            | (have e : enc5 (hopeK (Sv (h_i h) o) p (k + 1)) = (nI b) := by
                rw [show hopeK (Sv (h_i h) o) p (k + 1) = _ from bestO_s hb]
                simp [*, enc5, Sv]
               rw [e] at ih
               exact ih)
            | (have e : enc5 (hopeK (Sv (h_i h) o) p (k + 1)) = nI k := by
                rw [show hopeK (Sv (h_i h) o) p (k + 1) = _ from bestO_s hb]
                simp [*, enc5, Sv]
               rw [e] at ih
               exact ih)
        · refine r_iload_n (pc := 18) X dX5_mostHopeful_18 rfl ?_
          refine r_bipush (pc := 19) (v := (-5)) X dX5_mostHopeful_19 (by decide) ?_
          refine r_icmp_eq (pc := 21) X dX5_mostHopeful_21 (tgt := 39) (by decide) (fun c21 => ?_) (fun c21 => ?_)
          · exact absurd c21 (nI_ne5 (by omega))
          · refine r_aload_n (pc := 24) X dX5_mostHopeful_24 rfl ?_
            refine r_getr (pc := 25) X dX5_mostHopeful_25 tf_5_21 rfl S.c0 S.r3 ?_
            refine r_iload_n (pc := 28) X dX5_mostHopeful_28 rfl ?_
            refine r_iald (pc := 29) X dX5_mostHopeful_29 S.a4 rfl (by omega) (by omega) rfl ?_
            refine r_aload_n (pc := 30) X dX5_mostHopeful_30 rfl ?_
            refine r_getr (pc := 31) X dX5_mostHopeful_31 tf_5_21 rfl S.c0 S.r3 ?_
            refine r_iload_n (pc := 34) X dX5_mostHopeful_34 rfl ?_
            refine r_iald (pc := 35) X dX5_mostHopeful_35 S.a4 rfl (by omega) (by omega) rfl ?_
            refine r_icmp_le (pc := 36) X dX5_mostHopeful_36 (tgt := 41) (by decide) (fun c36 => ?_) (fun c36 => ?_)
            · refine r_iinc (pc := 41) X dX5_mostHopeful_41 rfl (by first | exact nI_i1 _ | rfl) ?_
              refine r_goto (pc := 44) X dX5_mostHopeful_44 (tgt := 5) (by decide) ?_
              first
                | (have e : enc5 (hopeK (Sv (h_i h) o) p (k + 1)) = (nI b) := by
                    rw [show hopeK (Sv (h_i h) o) p (k + 1) = _ from bestO_s hb]
                    simp [*, enc5, Sv]
                   rw [e] at ih
                   exact ih)
                | (have e : enc5 (hopeK (Sv (h_i h) o) p (k + 1)) = nI k := by
                    rw [show hopeK (Sv (h_i h) o) p (k + 1) = _ from bestO_s hb]
                    simp [*, enc5, Sv]
                   rw [e] at ih
                   exact ih)
            · refine r_iload_n (pc := 39) X dX5_mostHopeful_39 rfl ?_
              refine r_istore_n (pc := 40) X dX5_mostHopeful_40 (Nat.le_of_ble_eq_true rfl) ?_
              refine r_iinc (pc := 41) X dX5_mostHopeful_41 rfl (by first | exact nI_i1 _ | rfl) ?_
              refine r_goto (pc := 44) X dX5_mostHopeful_44 (tgt := 5) (by decide) ?_
              first
                | (have e : enc5 (hopeK (Sv (h_i h) o) p (k + 1)) = (nI b) := by
                    rw [show hopeK (Sv (h_i h) o) p (k + 1) = _ from bestO_s hb]
                    simp [*, enc5, Sv]
                   rw [e] at ih
                   exact ih)
                | (have e : enc5 (hopeK (Sv (h_i h) o) p (k + 1)) = nI k := by
                    rw [show hopeK (Sv (h_i h) o) p (k + 1) = _ from bestO_s hb]
                    simp [*, enc5, Sv]
                   rw [e] at ih
                   exact ih)
theorem hPv {V : VT} {B : Nat} (hW : WF B V) : V 0 6 = nI (vP V) ∧ vP V ≤ 6 := ⟨hW.1, hW.2.1⟩
set_option maxRecDepth 10000 in
set_option maxHeartbeats 4000000 in
theorem e_near : ∀ (d : Nat) {h : hp_T} {o p B : Nat} (S : St h o) (hW : WF B (Sv (h_i h) o)) (hp : p < 6), Ep (d + 2) nX5_nearest [.ref o, .int (nI p)] h (.int (enc5 (nearK (Sv (h_i h) o) p (vP (Sv (h_i h) o))))) := by
  intro d h o p B S hW hp
  refine Ex.of mm_X5_nearest (Nat.le_of_ble_eq_true rfl) fun w κ X hk hnm => ?_
  refine r_bipush (pc := 0) (v := (-5)) X dX5_nearest_0 (by decide) ?_
  refine r_istore_n (pc := 2) X dX5_nearest_2 (Nat.le_of_ble_eq_true rfl) ?_
  refine r_iconst (pc := 3) (v := (nI 0)) X dX5_nearest_3 (by decide) ?_
  refine r_istore_n (pc := 4) X dX5_nearest_4 (Nat.le_of_ble_eq_true rfl) ?_
  exact l_near d S hW.1 hW.2.1 hp X ⟨⟨rfl, rfl⟩, rfl⟩ _ 0 (Nat.zero_add _)
set_option maxRecDepth 10000 in
set_option maxHeartbeats 4000000 in
theorem e_farw : ∀ (d : Nat) {h : hp_T} {o p B : Nat} (x : Int32) (S : St h o) (hW : WF B (Sv (h_i h) o)) (hp : p < 6), Ep (d + 2) nX5_farthestWithin [.ref o, .int (nI p), .int x] h (.int (enc5 (farK (Sv (h_i h) o) p x (vP (Sv (h_i h) o))))) := by
  intro d h o p B x S hW hp
  refine Ex.of mm_X5_farthestWithin (Nat.le_of_ble_eq_true rfl) fun w κ X hk hnm => ?_
  refine r_bipush (pc := 0) (v := (-5)) X dX5_farthestWithin_0 (by decide) ?_
  refine r_istore_n (pc := 2) X dX5_farthestWithin_2 (Nat.le_of_ble_eq_true rfl) ?_
  refine r_iconst (pc := 3) (v := (nI 0)) X dX5_farthestWithin_3 (by decide) ?_
  refine r_istore (pc := 4) X dX5_farthestWithin_4 (Nat.le_of_ble_eq_true rfl) ?_
  exact l_farw d S hW.1 hW.2.1 hp X ⟨⟨rfl, rfl⟩, rfl⟩ _ 0 (Nat.zero_add _)
set_option maxRecDepth 10000 in
set_option maxHeartbeats 4000000 in
theorem e_hope : ∀ (d : Nat) {h : hp_T} {o p B : Nat} (S : St h o) (hW : WF B (Sv (h_i h) o)) (hp : p < 6), Ep (d) nX5_mostHopeful [.ref o, .int (nI p)] h (.int (enc5 (hopeK (Sv (h_i h) o) p (vP (Sv (h_i h) o))))) := by
  intro d h o p B S hW hp
  refine Ex.of mm_X5_mostHopeful (Nat.le_of_ble_eq_true rfl) fun w κ X hk hnm => ?_
  refine r_bipush (pc := 0) (v := (-5)) X dX5_mostHopeful_0 (by decide) ?_
  refine r_istore_n (pc := 2) X dX5_mostHopeful_2 (Nat.le_of_ble_eq_true rfl) ?_
  refine r_iconst (pc := 3) (v := (nI 0)) X dX5_mostHopeful_3 (by decide) ?_
  refine r_istore_n (pc := 4) X dX5_mostHopeful_4 (Nat.le_of_ble_eq_true rfl) ?_
  exact l_hope d S hW.1 hW.2.1 hp X ⟨⟨rfl, rfl⟩, rfl⟩ _ 0 (Nat.zero_add _)
set_option maxRecDepth 10000 in
set_option maxHeartbeats 4000000 in
theorem e_target : ∀ (d : Nat) {h : hp_T} {o p : Nat} {E : EV} {B : Nat} (S : St h o) (hE : evC h (h_i h) (h_r h o 11) E) (hW : WF B (Sv (h_i h) o)) (hp : p < 6), Ep (d + 3) nX5_target [.ref o, .int (nI p)] h (.int (enc5 (targetF E (Sv (h_i h) o) p))) := by
  intro d h o p E B S hE hW hp
  refine Ex.of mm_X5_target (Nat.le_of_ble_eq_true rfl) fun w κ X hk hnm => ?_
  refine r_aload_n (pc := 0) X dX5_target_0 rfl ?_
  refine r_getr (pc := 1) X dX5_target_1 tf_5_9 rfl S.c0 S.r0 ?_
  refine r_iload_n (pc := 4) X dX5_target_4 rfl ?_
  refine r_iald (pc := 5) X dX5_target_5 S.a1 rfl (by omega) (by omega) rfl ?_
  refine sw_X5_target_6 X (fun z6 => ?_) (fun z6 => ?_) (fun z6 => ?_) (fun z6 => ?_) (fun z6 => ?_)
  · refine r_aload_n (pc := 40) X dX5_target_40 rfl ?_
    refine r_iload_n (pc := 41) X dX5_target_41 rfl ?_
    refine r_aload_n (pc := 42) X dX5_target_42 rfl ?_
    refine r_iload_n (pc := 43) X dX5_target_43 rfl ?_
    refine r_c0_1P (pc := 44) X rfl dX5_target_44 tc_5_88 mm_X5_reach S.c0 rfl rfl (e_reach (d + 1) S hE hW hp) (Nat.le_of_ble_eq_true rfl) ?_
    refine r_c0_2P (pc := 47) X rfl dX5_target_47 tc_5_91 mm_X5_farthestWithin S.c0 rfl rfl (e_farw d _ S hW hp) (Nat.le_of_ble_eq_true rfl) ?_
    refine r_istore_n (pc := 50) X dX5_target_50 (Nat.le_of_ble_eq_true rfl) ?_
    refine r_iload_n (pc := 51) X dX5_target_51 rfl ?_
    refine r_bipush (pc := 52) (v := (-5)) X dX5_target_52 (by decide) ?_
    refine r_icmp_ne (pc := 54) X dX5_target_54 (tgt := 65) (by decide) (fun c54 => ?_) (fun c54 => ?_)
    · refine r_iload_n (pc := 65) X dX5_target_65 rfl ?_
      refine r_iret (pc := 66) X dX5_target_66 rfl rfl ?_
      refine ⟨⟨?_, rfl⟩, rfl⟩
      have g := tgt_far (E := E) (by first | exact Or.inl z6 | exact Or.inr z6) rfl hW.2.1
      first | rw [g.1 c54] | rw [g.2 c54]
    · refine r_aload_n (pc := 57) X dX5_target_57 rfl ?_
      refine r_iload_n (pc := 58) X dX5_target_58 rfl ?_
      refine r_c0_1P (pc := 59) X rfl dX5_target_59 tc_5_94 mm_X5_nearest S.c0 rfl rfl (e_near d S hW hp) (Nat.le_of_ble_eq_true rfl) ?_
      refine r_goto (pc := 62) X dX5_target_62 (tgt := 66) (by decide) ?_
      refine r_iret (pc := 66) X dX5_target_66 rfl rfl ?_
      refine ⟨⟨?_, rfl⟩, rfl⟩
      have g := tgt_far (E := E) (by first | exact Or.inl z6 | exact Or.inr z6) rfl hW.2.1
      first | rw [g.1 c54] | rw [g.2 c54]
  · refine r_aload_n (pc := 67) X dX5_target_67 rfl ?_
    refine r_iload_n (pc := 68) X dX5_target_68 rfl ?_
    refine r_c0_1P (pc := 69) X rfl dX5_target_69 tc_5_97 mm_X5_mostHopeful S.c0 rfl rfl (e_hope (d + 2) S hW hp) (Nat.le_of_ble_eq_true rfl) ?_
    refine r_iret (pc := 72) X dX5_target_72 rfl rfl ?_
    exact ⟨⟨by rw [tgt_hope (by first | exact Or.inl z6 | exact Or.inr z6)], rfl⟩, rfl⟩
  · refine r_aload_n (pc := 40) X dX5_target_40 rfl ?_
    refine r_iload_n (pc := 41) X dX5_target_41 rfl ?_
    refine r_aload_n (pc := 42) X dX5_target_42 rfl ?_
    refine r_iload_n (pc := 43) X dX5_target_43 rfl ?_
    refine r_c0_1P (pc := 44) X rfl dX5_target_44 tc_5_88 mm_X5_reach S.c0 rfl rfl (e_reach (d + 1) S hE hW hp) (Nat.le_of_ble_eq_true rfl) ?_
    refine r_c0_2P (pc := 47) X rfl dX5_target_47 tc_5_91 mm_X5_farthestWithin S.c0 rfl rfl (e_farw d _ S hW hp) (Nat.le_of_ble_eq_true rfl) ?_
    refine r_istore_n (pc := 50) X dX5_target_50 (Nat.le_of_ble_eq_true rfl) ?_
    refine r_iload_n (pc := 51) X dX5_target_51 rfl ?_
    refine r_bipush (pc := 52) (v := (-5)) X dX5_target_52 (by decide) ?_
    refine r_icmp_ne (pc := 54) X dX5_target_54 (tgt := 65) (by decide) (fun c54 => ?_) (fun c54 => ?_)
    · refine r_iload_n (pc := 65) X dX5_target_65 rfl ?_
      refine r_iret (pc := 66) X dX5_target_66 rfl rfl ?_
      refine ⟨⟨?_, rfl⟩, rfl⟩
      have g := tgt_far (E := E) (by first | exact Or.inl z6 | exact Or.inr z6) rfl hW.2.1
      first | rw [g.1 c54] | rw [g.2 c54]
    · refine r_aload_n (pc := 57) X dX5_target_57 rfl ?_
      refine r_iload_n (pc := 58) X dX5_target_58 rfl ?_
      refine r_c0_1P (pc := 59) X rfl dX5_target_59 tc_5_94 mm_X5_nearest S.c0 rfl rfl (e_near d S hW hp) (Nat.le_of_ble_eq_true rfl) ?_
      refine r_goto (pc := 62) X dX5_target_62 (tgt := 66) (by decide) ?_
      refine r_iret (pc := 66) X dX5_target_66 rfl rfl ?_
      refine ⟨⟨?_, rfl⟩, rfl⟩
      have g := tgt_far (E := E) (by first | exact Or.inl z6 | exact Or.inr z6) rfl hW.2.1
      first | rw [g.1 c54] | rw [g.2 c54]
  · refine r_aload_n (pc := 67) X dX5_target_67 rfl ?_
    refine r_iload_n (pc := 68) X dX5_target_68 rfl ?_
    refine r_c0_1P (pc := 69) X rfl dX5_target_69 tc_5_97 mm_X5_mostHopeful S.c0 rfl rfl (e_hope (d + 2) S hW hp) (Nat.le_of_ble_eq_true rfl) ?_
    refine r_iret (pc := 72) X dX5_target_72 rfl rfl ?_
    exact ⟨⟨by rw [tgt_hope (by first | exact Or.inl z6 | exact Or.inr z6)], rfl⟩, rfl⟩
  · refine r_aload_n (pc := 73) X dX5_target_73 rfl ?_
    refine r_iload_n (pc := 74) X dX5_target_74 rfl ?_
    refine r_c0_1P (pc := 75) X rfl dX5_target_75 tc_5_94 mm_X5_nearest S.c0 rfl rfl (e_near d S hW hp) (Nat.le_of_ble_eq_true rfl) ?_
    refine r_iret (pc := 78) X dX5_target_78 rfl rfl ?_
    exact ⟨⟨by rw [tgt_near z6], rfl⟩, rfl⟩
