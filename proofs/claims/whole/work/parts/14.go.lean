/-! steps: one, many, to the end -/
def playF (E : EV) (V : VT) (x y : Int32) : VT := if x = nI 0 then (moveF E V).2 else if x = nI 1 then vU V 0 8 (mn (nI 999) (V 0 8 + nI 10)) else handF V y
theorem target_none {E : EV} {V : VT} (h2 : vP V < 2) (hw : vW V < vP V ∨ (vP V = 0 ∧ vW V = 0)) : targetF E V (vW V) = none := by
  have h0 : vW V = 0 := by omega
  have hc : vP V = 0 ∨ vP V = 1 := by omega
  have n1 : nearK V 0 (vP V) = none := by rcases hc with e | e <;> rw [e] <;> rfl
  have n2 : hopeK V 0 (vP V) = none := by rcases hc with e | e <;> rw [e] <;> rfl
  have n3 : ∀ x : Int32, farK V 0 x (vP V) = none := by intro x; rcases hc with e | e <;> rw [e] <;> rfl
  unfold targetF
  rw [h0]
  by_cases c1 : V 1 0 = nI 2 ∨ V 1 0 = nI 5
  · rw [if_pos c1, n3]
    exact n1
  · rw [if_neg c1]
    by_cases c2 : V 1 0 = nI 3 ∨ V 1 0 = nI 6
    · rw [if_pos c2]
      exact n2
    · rw [if_neg c2]
      exact n1
set_option maxRecDepth 10000 in
set_option maxHeartbeats 4000000 in
theorem e_move : ∀ (d : Nat) {h : hp_T} {M : Mem} {o B : Nat} {E : EV} (S : St h o) (hE : evC h M (h_r h o 11) E) (hD : evD h o (h_r h o 11)) (hW : WF B (Sv M o)) (hEW : EW E), Ei (d + 4) nX5_move [.ref o] (wi h M) (fun r M1 => r = (moveF E (Sv M o)).1 ∧ pS M o (moveF E (Sv M o)).2 M1) := by
  intro d h M o B E S hE hD hW hEW
  have hp6 : vW (Sv M o) < 6 := by have := hW.2.1; have := hW.2.2.1.2; omega
  refine Ex.of mm_X5_move (Nat.le_of_ble_eq_true rfl) fun w κ X hk hnm => ?_
  refine r_aload_n (pc := 0) X dX5_move_0 rfl ?_
  refine r_c0_0P (pc := 1) X rfl dX5_move_1 tc_5_103 mm_X5_isAtEnd S.c0 rfl rfl (e_isAtEnd (d + 3) S) (Nat.le_of_ble_eq_true rfl) ?_
  refine r_if_eq (pc := 4) X dX5_move_4 (tgt := 12) (by decide) (fun c4 => ?_) (fun c4 => ?_)
  · refine r_aload_n (pc := 12) X dX5_move_12 rfl ?_
    refine r_aload_n (pc := 13) X dX5_move_13 rfl ?_
    refine r_getiW (pc := 14) X dX5_move_14 tf_5_43 rfl S.c0 hW.2.2.1.1 ?_
    refine r_c0_1P (pc := 17) X rfl dX5_move_17 tc_5_107 mm_X5_target S.c0 rfl rfl (e_target d S hE hW hp6) (Nat.le_of_ble_eq_true rfl) ?_
    refine r_istore_n (pc := 20) X dX5_move_20 (Nat.le_of_ble_eq_true rfl) ?_
    refine r_iload_n (pc := 21) X dX5_move_21 rfl ?_
    refine r_bipush (pc := 22) (v := (-5)) X dX5_move_22 (by decide) ?_
    refine r_icmp_ne (pc := 24) X dX5_move_24 (tgt := 30) (by decide) (fun c24 => ?_) (fun c24 => ?_)
    · have hp2 : 2 ≤ vP (Sv M o) := by
        refine Nat.le_of_not_lt (fun h2 => c24 ?_)
        show enc5 (targetF E (Sv M o) (vW (Sv M o))) = -5
        rw [target_none h2 hW.2.2.1.2]
        rfl
      obtain ⟨q, hq, -, ht⟩ := target_some (E := E) (p := vW (Sv M o)) hp2
      have hq6 : q < 6 := by have := hW.2.1; omega
      have c4 : endF (Sv M o) = false := b2_z.mp c4
      have hmv : moveF E (Sv M o) = ((carryF E (Sv M o) (vW (Sv M o)) q).1, vU (carryF E (Sv M o) (vW (Sv M o)) q).2 0 9 ((carryF E (Sv M o) (vW (Sv M o)) q).2 0 9 + nI 1)) := by
        unfold moveF
        rw [if_neg (fun z => z.elim (by rw [c4]; decide) (by omega)), ht]
        rfl
      refine r_aload_n (pc := 30) X dX5_move_30 rfl ?_
      refine r_aload_n (pc := 31) X dX5_move_31 rfl ?_
      refine r_getiW (pc := 32) X dX5_move_32 tf_5_43 rfl S.c0 hW.2.2.1.1 ?_
      refine r_iload_n (pc := 35) X dX5_move_35 rfl ?_
      refine r_top (y := nI q) (by show enc5 (targetF E (Sv M o) (vW (Sv M o))) = _; rw [ht]; rfl) ?_
      refine r_c0_2IW (pc := 36) X rfl dX5_move_36 tc_5_110 mm_X5_carryOrTell S.c0 rfl rfl (e_carry d S hE hD hW hp6 hq6) (Nat.le_of_ble_eq_true rfl) (fun r36 M36 q36 => ?_)
      refine r_istore_n (pc := 39) X dX5_move_39 (Nat.le_of_ble_eq_true rfl) ?_
      refine r_aload_n (pc := 40) X dX5_move_40 rfl ?_
      refine r_dup (pc := 41) X dX5_move_41 rfl ?_
      refine r_getiW (pc := 42) X dX5_move_42 tf_5_49 rfl S.c0 (show M36 o 9 = (carryF E (Sv M o) (vW (Sv M o)) q).2 0 9 by rw [← q36.2.1]; rfl) ?_
      refine r_iconst (pc := 45) (v := (nI 1)) X dX5_move_45 (by decide) ?_
      refine r_iadd (pc := 46) X dX5_move_46 ?_
      refine r_putiW (pc := 47) X dX5_move_47 tf_5_49 rfl (Or.inl rfl) S.c0 ⟨rfl, rfl⟩ ?_
      refine r_iload_n (pc := 50) X dX5_move_50 rfl ?_
      refine r_iret (pc := 51) X dX5_move_51 rfl rfl ?_
      exact ⟨⟨_, _, rfl, rfl, by rw [hmv]; exact q36.1, by rw [hmv]; exact q36.2.u0⟩, rfl⟩
    · refine r_bipush (pc := 27) (v := (-3)) X dX5_move_27 (by decide) ?_
      refine r_iret (pc := 29) X dX5_move_29 rfl rfl ?_
      have hlt : vP (Sv M o) < 2 := by
        refine Nat.lt_of_not_le (fun h2 => ?_)
        obtain ⟨q, hq, -, ht⟩ := target_some (E := E) (p := vW (Sv M o)) h2
        have e5 : enc5 (targetF E (Sv M o) (vW (Sv M o))) = -5 := c24
        rw [ht] at e5
        exact nI_ne5 (show q < 1000 by have := hW.2.1; omega) e5
      have hst : moveF E (Sv M o) = (-3, Sv M o) := by
        unfold moveF
        rw [if_pos (Or.inr hlt)]
      exact ⟨⟨_, _, rfl, rfl, by rw [hst], by rw [hst]; exact pS.rf⟩, rfl⟩
  · refine r_bipush (pc := 7) (v := (-5)) X dX5_move_7 (by decide) ?_
    refine r_goto (pc := 9) X dX5_move_9 (tgt := 20) (by decide) ?_
    refine r_istore_n (pc := 20) X dX5_move_20 (Nat.le_of_ble_eq_true rfl) ?_
    refine r_iload_n (pc := 21) X dX5_move_21 rfl ?_
    refine r_bipush (pc := 22) (v := (-5)) X dX5_move_22 (by decide) ?_
    refine r_icmp_ne (pc := 24) X dX5_move_24 (tgt := 30) (by decide) (fun c24 => ?_) (fun c24 => ?_)
    · exact absurd rfl c24
    · refine r_bipush (pc := 27) (v := (-3)) X dX5_move_27 (by decide) ?_
      refine r_iret (pc := 29) X dX5_move_29 rfl rfl ?_
      have c4 : endF (Sv M o) = true := b2_n.mp c4
      have hst : moveF E (Sv M o) = (-3, Sv M o) := by
        unfold moveF
        rw [if_pos (Or.inl c4)]
      exact ⟨⟨_, _, rfl, rfl, by rw [hst], by rw [hst]; exact pS.rf⟩, rfl⟩
set_option maxRecDepth 10000 in
set_option maxHeartbeats 4000000 in
theorem l_go : ∀ (d : Nat) {h : hp_T} {o n : Nat} {E : EV} (S : St h o) (hD : evD h o (h_r h o 11)) (hEW : EW E) (hn : n ≤ 1000) {w : wc_T} {κ : cx_T} {Φ : Option Value → hp_T → Prop} (X : CX w κ (d + 5) 5 cX5_go 3 none Φ),
    ∀ (m k B : Nat) (M : Mem), k + m = n → evC h M (h_r h o 11) E → WF B (Sv M o) → B + 2 * m ≤ 1000000 → (∀ M1, pS M o (goF E m (Sv M o)) M1 → Φ none (wi h M1)) → GG w κ 2 [some (.ref o), some (.int (nI n)), some (.int (nI k))] [] (wi h M) := by
  intro d h o n E S hD hEW hn w κ Φ X m
  induction m with
  | zero =>
    intro k B M hk hE hW hB hΦ
    have hkn : k = n := by omega
    subst hkn
    refine r_iload_n (pc := 2) X dX5_go_2 rfl ?_
    refine r_iload_n (pc := 3) X dX5_go_3 rfl ?_
    refine r_icmp_geN (pc := 4) X dX5_go_4 (tgt := 18) (by decide) (by omega) (by omega) (fun c4 => ?_) (fun c4 => ?_)
    · refine r_vret (pc := 18) X dX5_go_18 rfl ?_
      exact hΦ M pS.rf
    · exact absurd (Nat.le_refl _) c4
  | succ m ih =>
    intro k B M hk hE hW hB hΦ
    refine r_iload_n (pc := 2) X dX5_go_2 rfl ?_
    refine r_iload_n (pc := 3) X dX5_go_3 rfl ?_
    refine r_icmp_geN (pc := 4) X dX5_go_4 (tgt := 18) (by decide) (by omega) (by omega) (fun c4 => ?_) (fun c4 => ?_)
    · exact absurd c4 (by omega)
    · refine r_aload_n (pc := 7) X dX5_go_7 rfl ?_
      refine r_c0_0IW (pc := 8) X rfl dX5_go_8 tc_5_120 mm_X5_move S.c0 rfl rfl (e_move d S hE hD hW hEW) (Nat.le_of_ble_eq_true rfl) (fun r8 M8 q8 => ?_)
      refine r_pop (pc := 11) X dX5_go_11 rfl ?_
      refine r_iinc (pc := 12) X dX5_go_12 rfl (by first | exact nI_i1 _ | rfl) ?_
      refine r_goto (pc := 15) X dX5_go_15 (tgt := 2) (by decide) ?_
      have e := q8.2.1
      exact ih (k + 1) (B + 2) M8 (by omega) (evS hE hD q8.2.2) (by rw [e]; exact hW.move hEW (by omega)) (by omega) (fun M1 z => hΦ M1 (pS.tr q8.2 (by rw [e] at z; exact z)))
set_option maxRecDepth 10000 in
set_option maxHeartbeats 4000000 in
theorem e_go : ∀ (d n : Nat) {h : hp_T} {M : Mem} {o B : Nat} {E : EV} (S : St h o) (hE : evC h M (h_r h o 11) E) (hD : evD h o (h_r h o 11)) (hW : WF B (Sv M o)) (hEW : EW E) (hn : n ≤ 1000) (hB : B + 2 * n ≤ 1000000), Ev (d + 5) nX5_go [.ref o, .int (nI n)] (wi h M) (fun M1 => pS M o (goF E n (Sv M o)) M1) := by
  intro d n h M o B E S hE hD hW hEW hn hB
  refine Ex.of mm_X5_go (Nat.le_of_ble_eq_true rfl) fun w κ X hk hnm => ?_
  refine r_iconst (pc := 0) (v := (nI 0)) X dX5_go_0 (by decide) ?_
  refine r_istore_n (pc := 1) X dX5_go_1 (Nat.le_of_ble_eq_true rfl) ?_
  exact l_go d S hD hEW hn X n 0 B M (Nat.zero_add _) hE hW hB (fun M1 z => ⟨⟨M1, rfl, rfl, z⟩, rfl⟩)
theorem out_le {E : EV} : ∀ (n b : Nat) (V : VT), outF E n b V ≤ b + n := by
  intro n
  induction n with
  | zero => intro b V; exact Nat.le_refl _
  | succ n ih =>
    intro b V
    unfold outF
    split
    · omega
    · have := ih (b + 1) (moveF E V).2
      omega
set_option maxRecDepth 10000 in
set_option maxHeartbeats 4000000 in
theorem l_out : ∀ (d : Nat) {h : hp_T} {o : Nat} {E : EV} (S : St h o) (hD : evD h o (h_r h o 11)) (hEW : EW E) {w : wc_T} {κ : cx_T} {Φ : Option Value → hp_T → Prop} (X : CX w κ (d + 5) 5 cX5_outlast 2 (some .int) Φ),
    ∀ (m k B : Nat) (M : Mem), k + m = 100 → evC h M (h_r h o 11) E → WF B (Sv M o) → B + 2 * m ≤ 1000000 → (∀ M1 V1, pS M o V1 M1 → (ZV (Sv M o) → ZV V1) → Φ (some (.int (nI (outF E m k (Sv M o))))) (wi h M1)) → GG w κ 2 [some (.ref o), some (.int (nI k))] [] (wi h M) := by
  intro d h o E S hD hEW w κ Φ X m
  induction m with
  | zero =>
    intro k B M hk hE hW hB hΦ
    have hkn : k = 100 := by omega
    subst hkn
    refine r_iload_n (pc := 2) X dX5_outlast_2 rfl ?_
    refine r_bipush (pc := 3) (v := (nI 99)) X dX5_outlast_3 (by decide) ?_
    refine r_icmp_gtN (pc := 5) X dX5_outlast_5 (tgt := 28) (by decide) (by omega) (by omega) (fun c5 => ?_) (fun c5 => ?_)
    · refine r_bipush (pc := 28) (v := (nI 100)) X dX5_outlast_28 (by decide) ?_
      refine r_iret (pc := 30) X dX5_outlast_30 rfl rfl ?_
      exact hΦ M (Sv M o) pS.rf (fun z => z)
    · exact absurd (by omega) c5
  | succ m ih =>
    intro k B M hk hE hW hB hΦ
    refine r_iload_n (pc := 2) X dX5_outlast_2 rfl ?_
    refine r_bipush (pc := 3) (v := (nI 99)) X dX5_outlast_3 (by decide) ?_
    refine r_icmp_gtN (pc := 5) X dX5_outlast_5 (tgt := 28) (by decide) (by omega) (by omega) (fun c5 => ?_) (fun c5 => ?_)
    · exact absurd c5 (by omega)
    · refine r_aload_n (pc := 8) X dX5_outlast_8 rfl ?_
      refine r_c0_0P (pc := 9) X rfl dX5_outlast_9 tc_5_103 mm_X5_isAtEnd S.c0 rfl rfl (e_isAtEnd (d + 4) S) (Nat.le_of_ble_eq_true rfl) ?_
      refine r_if_eq (pc := 12) X dX5_outlast_12 (tgt := 17) (by decide) (fun c12 => ?_) (fun c12 => ?_)
      · refine r_aload_n (pc := 17) X dX5_outlast_17 rfl ?_
        refine r_c0_0IW (pc := 18) X rfl dX5_outlast_18 tc_5_120 mm_X5_move S.c0 rfl rfl (e_move d S hE hD hW hEW) (Nat.le_of_ble_eq_true rfl) (fun r18 M18 q18 => ?_)
        refine r_pop (pc := 21) X dX5_outlast_21 rfl ?_
        refine r_iinc (pc := 22) X dX5_outlast_22 rfl (by first | exact nI_i1 _ | rfl) ?_
        refine r_goto (pc := 25) X dX5_outlast_25 (tgt := 2) (by decide) ?_
        have c12 : endF (Sv M o) = false := b2_z.mp c12
        have e := q18.2.1
        have e2 : outF E (m + 1) k (Sv M o) = outF E m (k + 1) (Sv M18 o) := by rw [outF, if_neg (by rw [c12]; decide), e]
        rw [e2] at hΦ
        exact ih (k + 1) (B + 2) M18 (by omega) (evS hE hD q18.2.2) (by rw [e]; exact hW.move hEW (by omega)) (by omega) (fun M1 V1 z y => hΦ M1 V1 (pS.tr q18.2 z) (fun x => y (by rw [e]; exact x.move hW)))
      · refine r_iload_n (pc := 15) X dX5_outlast_15 rfl ?_
        refine r_iret (pc := 16) X dX5_outlast_16 rfl rfl ?_
        have c12 : endF (Sv M o) = true := b2_n.mp c12
        have e : outF E (m + 1) k (Sv M o) = k := by rw [outF, if_pos c12]
        rw [e] at hΦ
        exact hΦ M (Sv M o) pS.rf (fun z => z)
set_option maxRecDepth 10000 in
set_option maxHeartbeats 4000000 in
theorem e_out : ∀ (d : Nat) {h : hp_T} {M : Mem} {o B : Nat} {E : EV} (S : St h o) (hE : evC h M (h_r h o 11) E) (hD : evD h o (h_r h o 11)) (hW : WF B (Sv M o)) (hEW : EW E) (hB : B + 200 ≤ 1000000), Ei (d + 5) nX5_outlast [.ref o] (wi h M) (fun r M1 => r = nI (outF E 100 0 (Sv M o)) ∧ ∃ V1, pS M o V1 M1 ∧ (ZV (Sv M o) → ZV V1)) := by
  intro d h M o B E S hE hD hW hEW hB
  refine Ex.of mm_X5_outlast (Nat.le_of_ble_eq_true rfl) fun w κ X hk hnm => ?_
  refine r_iconst (pc := 0) (v := (nI 0)) X dX5_outlast_0 (by decide) ?_
  refine r_istore_n (pc := 1) X dX5_outlast_1 (Nat.le_of_ble_eq_true rfl) ?_
  exact l_out d S hD hEW X 100 0 B M rfl hE hW hB (fun M1 V1 z y => ⟨⟨_, M1, rfl, rfl, rfl, V1, z, y⟩, rfl⟩)
set_option maxRecDepth 10000 in
set_option maxHeartbeats 4000000 in
theorem e_play : ∀ (d : Nat) (x y : Int32) {h : hp_T} {M : Mem} {o B : Nat} {E : EV} (S : St h o) (hE : evC h M (h_r h o 11) E) (hD : evD h o (h_r h o 11)) (hW : WF B (Sv M o)) (hEW : EW E), Ev (d + 5) nX5_play [.ref o, .int x, .int y] (wi h M) (fun M1 => pS M o (playF E (Sv M o) x y) M1) := by
  intro d x y h M o B E S hE hD hW hEW
  refine Ex.of mm_X5_play (Nat.le_of_ble_eq_true rfl) fun w κ X hk hnm => ?_
  refine r_iload_n (pc := 0) X dX5_play_0 rfl ?_
  refine sw_X5_play_1 X (fun z1 => ?_) (fun z1 => ?_) (fun z1 => ?_)
  · refine r_aload_n (pc := 28) X dX5_play_28 rfl ?_
    refine r_c0_0IW (pc := 29) X rfl dX5_play_29 tc_5_120 mm_X5_move S.c0 rfl rfl (e_move d S hE hD hW hEW) (Nat.le_of_ble_eq_true rfl) (fun r29 M29 q29 => ?_)
    refine r_pop (pc := 32) X dX5_play_32 rfl ?_
    refine r_goto (pc := 33) X dX5_play_33 (tgt := 61) (by decide) ?_
    refine r_vret (pc := 61) X dX5_play_61 rfl ?_
    first
      | exact ⟨⟨_, rfl, rfl, by rw [playF, if_pos z1]; exact q29.2⟩, rfl⟩
      | exact ⟨⟨_, rfl, rfl, by rw [playF, if_neg (by rw [z1]; decide), if_pos z1]; exact pS.rf.u0⟩, rfl⟩
      | exact ⟨⟨_, rfl, rfl, by rw [playF, if_neg z1.1, if_neg z1.2]; exact q58⟩, rfl⟩
  · refine r_aload_n (pc := 36) X dX5_play_36 rfl ?_
    refine r_sipush (pc := 37) (v := (nI 999)) X dX5_play_37 (by decide) ?_
    refine r_aload_n (pc := 40) X dX5_play_40 rfl ?_
    refine r_getiW (pc := 41) X dX5_play_41 tf_5_46 rfl S.c0 rfl ?_
    refine r_bipush (pc := 44) (v := (nI 10)) X dX5_play_44 (by decide) ?_
    refine r_iadd (pc := 46) X dX5_play_46 ?_
    refine r_min (pc := 47) X rfl dX5_play_47 tx_5_115 (Nat.le_of_ble_eq_true rfl) ?_
    refine r_putiW (pc := 50) X dX5_play_50 tf_5_46 rfl (Or.inl rfl) S.c0 ⟨rfl, rfl⟩ ?_
    refine r_goto (pc := 53) X dX5_play_53 (tgt := 61) (by decide) ?_
    refine r_vret (pc := 61) X dX5_play_61 rfl ?_
    first
      | exact ⟨⟨_, rfl, rfl, by rw [playF, if_pos z1]; exact q29.2⟩, rfl⟩
      | exact ⟨⟨_, rfl, rfl, by rw [playF, if_neg (by rw [z1]; decide), if_pos z1]; exact pS.rf.u0⟩, rfl⟩
      | exact ⟨⟨_, rfl, rfl, by rw [playF, if_neg z1.1, if_neg z1.2]; exact q58⟩, rfl⟩
  · refine r_aload_n (pc := 56) X dX5_play_56 rfl ?_
    refine r_iload_n (pc := 57) X dX5_play_57 rfl ?_
    refine r_c0_1VW (pc := 58) X rfl dX5_play_58 tc_5_123 mm_X5_hand S.c0 rfl rfl (e_hand (d + 4) _ S) (Nat.le_of_ble_eq_true rfl) (fun M58 q58 => ?_)
    refine r_vret (pc := 61) X dX5_play_61 rfl ?_
    first
      | exact ⟨⟨_, rfl, rfl, by rw [playF, if_pos z1]; exact q29.2⟩, rfl⟩
      | exact ⟨⟨_, rfl, rfl, by rw [playF, if_neg (by rw [z1]; decide), if_pos z1]; exact pS.rf.u0⟩, rfl⟩
      | exact ⟨⟨_, rfl, rfl, by rw [playF, if_neg z1.1, if_neg z1.2]; exact q58⟩, rfl⟩
/-- one more: the heaps behind join -/
def joinF (V : VT) (a b c e : Int32) : Int32 × VT := if V 0 6 < nI 6 then (V 0 6, vU (vU (vU (vU (vU V 1 (vP V) a) 2 (vP V) b) 3 (vP V) c) 4 (vP V) e) 0 6 (V 0 6 + nI 1)) else (-4, V)
set_option maxRecDepth 10000 in
set_option maxHeartbeats 4000000 in
theorem e_join : ∀ (d : Nat) (a b c e : Int32) {h : hp_T} {M : Mem} {o B : Nat} (S : St h o) (hW : WF B (Sv M o)), Ei d nX5_join [.ref o, .int a, .int b, .int c, .int e] (wi h M) (fun r M1 => r = (joinF (Sv M o) a b c e).1 ∧ pS M o (joinF (Sv M o) a b c e).2 M1) := by
  intro d a b c e h M o B S hW
  have h6 := hW.2.1
  refine Ex.of mm_X5_join (Nat.le_of_ble_eq_true rfl) fun w κ X hk hnm => ?_
  refine r_aload_n (pc := 0) X dX5_join_0 rfl ?_
  refine r_getiW (pc := 1) X dX5_join_1 tf_5_40 rfl S.c0 hW.1 ?_
  refine r_bipush (pc := 4) (v := (nI 6)) X dX5_join_4 (by decide) ?_
  refine r_icmp_ltN (pc := 6) X dX5_join_6 (tgt := 12) (by decide) (by omega) (by omega) (fun c6 => ?_) (fun c6 => ?_)
  · refine r_aload_n (pc := 12) X dX5_join_12 rfl ?_
    refine r_getiW (pc := 13) X dX5_join_13 tf_5_40 rfl S.c0 hW.1 ?_
    refine r_istore (pc := 16) X dX5_join_16 (Nat.le_of_ble_eq_true rfl) ?_
    refine r_aload_n (pc := 18) X dX5_join_18 rfl ?_
    refine r_getr (pc := 19) X dX5_join_19 tf_5_9 rfl S.c0 S.r0 ?_
    refine r_iload (pc := 22) X dX5_join_22 rfl ?_
    refine r_iload_n (pc := 24) X dX5_join_24 rfl ?_
    refine r_iastW (pc := 25) X dX5_join_25 S.a1 rfl (by omega) (by omega) ?_
    refine r_aload_n (pc := 26) X dX5_join_26 rfl ?_
    refine r_getr (pc := 27) X dX5_join_27 tf_5_15 rfl S.c0 S.r1 ?_
    refine r_iload (pc := 30) X dX5_join_30 rfl ?_
    refine r_iload_n (pc := 32) X dX5_join_32 rfl ?_
    refine r_iastW (pc := 33) X dX5_join_33 S.a2 rfl (by omega) (by omega) ?_
    refine r_aload_n (pc := 34) X dX5_join_34 rfl ?_
    refine r_getr (pc := 35) X dX5_join_35 tf_5_18 rfl S.c0 S.r2 ?_
    refine r_iload (pc := 38) X dX5_join_38 rfl ?_
    refine r_iload_n (pc := 40) X dX5_join_40 rfl ?_
    refine r_iastW (pc := 41) X dX5_join_41 S.a3 rfl (by omega) (by omega) ?_
    refine r_aload_n (pc := 42) X dX5_join_42 rfl ?_
    refine r_getr (pc := 43) X dX5_join_43 tf_5_21 rfl S.c0 S.r3 ?_
    refine r_iload (pc := 46) X dX5_join_46 rfl ?_
    refine r_iload (pc := 48) X dX5_join_48 rfl ?_
    refine r_iastW (pc := 50) X dX5_join_50 S.a4 rfl (by omega) (by omega) ?_
    refine r_aload_n (pc := 51) X dX5_join_51 rfl ?_
    refine r_dup (pc := 52) X dX5_join_52 rfl ?_
    refine r_getiW (pc := 53) X dX5_join_53 tf_5_40 rfl S.c0 (show _ = nI (vP (Sv M o)) by rw [mU_ne (by omega), mU_ne (by omega), mU_ne (by omega), mU_ne (by omega)]; exact hW.1) ?_
    refine r_iconst (pc := 56) (v := (nI 1)) X dX5_join_56 (by decide) ?_
    refine r_iadd (pc := 57) X dX5_join_57 ?_
    refine r_putiW (pc := 58) X dX5_join_58 tf_5_40 rfl (Or.inl rfl) S.c0 ⟨rfl, rfl⟩ ?_
    refine r_iload (pc := 61) X dX5_join_61 rfl ?_
    refine r_iret (pc := 63) X dX5_join_63 rfl rfl ?_
    have hst : joinF (Sv M o) a b c e = (nI (vP (Sv M o)), vU (vU (vU (vU (vU (Sv M o) 1 (vP (Sv M o)) a) 2 (vP (Sv M o)) b) 3 (vP (Sv M o)) c) 4 (vP (Sv M o)) e) 0 6 (nI (vP (Sv M o)) + nI 1)) := by
      unfold joinF
      rw [hW.1, if_pos ((nI_ltI (by omega) (by omega)).mpr c6)]
    exact ⟨⟨_, _, rfl, rfl, by rw [hst], by rw [hst]; exact ((((pS.rf.uf (by omega)).uf (by omega)).uf (by omega)).uf (by omega)).u0⟩, rfl⟩
  · refine r_bipush (pc := 9) (v := (-4)) X dX5_join_9 (by decide) ?_
    refine r_iret (pc := 11) X dX5_join_11 rfl rfl ?_
    have hst : joinF (Sv M o) a b c e = (-4, Sv M o) := by
      unfold joinF
      rw [hW.1, if_neg (fun z => c6 ((nI_ltI (by omega) (by omega)).mp z))]
    exact ⟨⟨_, _, rfl, rfl, by rw [hst], by rw [hst]; exact pS.rf⟩, rfl⟩
