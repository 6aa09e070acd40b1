/-! the constructors of what holds others -/
set_option maxRecDepth 10000 in
set_option maxHeartbeats 8000000 in
theorem c_scene : ∀ (d : Nat) {h : hp_T} {o : Nat} (hck : ck h o 0 4) (hf : h_i h o = fun _ => 0) (hr : h_r h o = fun _ => none), Ex (d + 4) nX4_init [.ref o] h 16 (123) (fun v2 h2 => v2 = none ∧ Bs h o (123) (kSc (h_n h)) (fun _ => 0) (rSc (h_n h)) h2) := by
  intro d h o hck hf hr
  have ho := hck.2.2
  have hz20 : 23 ≤ h_n h := Nat.le_of_lt (Nat.lt_of_le_of_lt hck.2.1 ho)
  have B0 := Bs.start hf hr
  refine Ex.of mm_X4_init (Nat.le_of_ble_eq_true rfl) fun w κ X hk hnm => ?_
  refine r_aload_n (pc := 0) X dX4_init_0 rfl ?_
  refine r_obj (pc := 1) X rfl dX4_init_1 to_4_3 (Nat.le_of_ble_eq_true rfl) hck.2.1 ?_
  refine r_aload_n (pc := 4) X dX4_init_4 rfl ?_
  refine g_new (pc := 5) (m := 0) X hk B0 ho dX4_init_5 tn_4_9 rfl (by decide) (by decide) (fun h1 B1 => ?_)
  refine r_dup (pc := 8) X dX4_init_8 rfl ?_
  refine g_c30 (pc := 9) (m := 0) (c1 := 6) (z1 := 54) (K1 := kSt) (f1 := fSt) (R1 := rSt (h_n h + 0 + 1)) X hk B1 ho hz20 rfl dX4_init_9 tc_4_11 mm_X5_init rfl rfl (by decide) (Nat.le_of_ble_eq_true rfl) (fun h1 a1 a2 a3 a4 => by have q := c_street (d + 0) a1 a2 a3; rw [a4] at q; exact q) (fun h2 B2 => ?_)
  refine g_putr (pc := 12) (r := some (h_n h + 0)) X B2 ho hck dX4_init_12 tf_4_12 rfl (Or.inr ⟨rfl, hnm, rfl⟩) (fun h3 B3 => ?_)
  refine r_aload_n (pc := 15) X dX4_init_15 rfl ?_
  refine g_new (pc := 16) (m := 7) X hk B3 ho dX4_init_16 tn_4_18 rfl (by decide) (by decide) (fun h4 B4 => ?_)
  refine r_dup (pc := 19) X dX4_init_19 rfl ?_
  refine r_bipush (pc := 20) (v := (nI 6)) X dX4_init_20 (by decide) ?_
  refine g_c21 (pc := 22) (m := 7) (c1 := 2) (z1 := 12) (K1 := (kPr 6)) (f1 := (fun _ => 0)) (R1 := rPr (h_n h + 7 + 1)) (a := .int (nI 6)) X hk B4 ho hz20 rfl dX4_init_22 tc_4_20 mm_X2_init rfl rfl (by decide) (Nat.le_of_ble_eq_true rfl) (fun h1 a1 a2 a3 a4 => by have q := c_pairs (d + 2) 6 a1 a2 a3 (by decide); rw [a4] at q; exact q) (fun h5 B5 => ?_)
  refine g_putr (pc := 25) (r := some (h_n h + 7)) X B5 ho hck dX4_init_25 tf_4_23 rfl (Or.inr ⟨rfl, hnm, rfl⟩) (fun h6 B6 => ?_)
  refine r_aload_n (pc := 28) X dX4_init_28 rfl ?_
  refine g_new (pc := 29) (m := 10) X hk B6 ho dX4_init_29 tn_4_18 rfl (by decide) (by decide) (fun h7 B7 => ?_)
  refine r_dup (pc := 32) X dX4_init_32 rfl ?_
  refine r_bipush (pc := 33) (v := (nI 10)) X dX4_init_33 (by decide) ?_
  refine g_c21 (pc := 35) (m := 10) (c1 := 2) (z1 := 20) (K1 := (kPr 10)) (f1 := (fun _ => 0)) (R1 := rPr (h_n h + 10 + 1)) (a := .int (nI 10)) X hk B7 ho hz20 rfl dX4_init_35 tc_4_20 mm_X2_init rfl rfl (by decide) (Nat.le_of_ble_eq_true rfl) (fun h1 a1 a2 a3 a4 => by have q := c_pairs (d + 2) 10 a1 a2 a3 (by decide); rw [a4] at q; exact q) (fun h8 B8 => ?_)
  refine g_putr (pc := 38) (r := some (h_n h + 10)) X B8 ho hck dX4_init_38 tf_4_27 rfl (Or.inr ⟨rfl, hnm, rfl⟩) (fun h9 B9 => ?_)
  refine r_aload_n (pc := 41) X dX4_init_41 rfl ?_
  refine g_new (pc := 42) (m := 13) X hk B9 ho dX4_init_42 tn_4_18 rfl (by decide) (by decide) (fun h10 B10 => ?_)
  refine r_dup (pc := 45) X dX4_init_45 rfl ?_
  refine r_bipush (pc := 46) (v := (nI 8)) X dX4_init_46 (by decide) ?_
  refine g_c21 (pc := 48) (m := 13) (c1 := 2) (z1 := 16) (K1 := (kPr 8)) (f1 := (fun _ => 0)) (R1 := rPr (h_n h + 13 + 1)) (a := .int (nI 8)) X hk B10 ho hz20 rfl dX4_init_48 tc_4_20 mm_X2_init rfl rfl (by decide) (Nat.le_of_ble_eq_true rfl) (fun h1 a1 a2 a3 a4 => by have q := c_pairs (d + 2) 8 a1 a2 a3 (by decide); rw [a4] at q; exact q) (fun h11 B11 => ?_)
  refine g_putr (pc := 51) (r := some (h_n h + 13)) X B11 ho hck dX4_init_51 tf_4_30 rfl (Or.inr ⟨rfl, hnm, rfl⟩) (fun h12 B12 => ?_)
  refine r_vret (pc := 54) X dX4_init_54 rfl ?_
  exact ⟨⟨rfl, B12⟩, Prod.ext B12.1.1 B12.1.2⟩
set_option maxRecDepth 10000 in
set_option maxHeartbeats 8000000 in
theorem c_class : ∀ (d : Nat) {h : hp_T} {o : Nat} (hck : ck h o 0 7) (hf : h_i h o = fun _ => 0) (hr : h_r h o = fun _ => none), Ex (d + 5) nX7_init [.ref o] h 56 (934) (fun v2 h2 => v2 = none ∧ Bs h o (934) (kLp (h_n h)) (fun _ => 0) (rLp (h_n h)) h2) := by
  intro d h o hck hf hr
  have ho := hck.2.2
  have hz20 : 23 ≤ h_n h := Nat.le_of_lt (Nat.lt_of_le_of_lt hck.2.1 ho)
  have B0 := Bs.start hf hr
  refine Ex.of mm_X7_init (Nat.le_of_ble_eq_true rfl) fun w κ X hk hnm => ?_
  refine r_aload_n (pc := 0) X dX7_init_0 rfl ?_
  refine r_obj (pc := 1) X rfl dX7_init_1 to_7_3 (Nat.le_of_ble_eq_true rfl) hck.2.1 ?_
  refine r_aload_n (pc := 4) X dX7_init_4 rfl ?_
  refine g_new (pc := 5) (m := 0) X hk B0 ho dX7_init_5 tn_7_9 rfl (by decide) (by decide) (fun h1 B1 => ?_)
  refine r_dup (pc := 8) X dX7_init_8 rfl ?_
  refine g_c30 (pc := 9) (m := 0) (c1 := 16) (z1 := 123) (K1 := (kSc (h_n h + 0 + 1))) (f1 := (fun _ => 0)) (R1 := rSc (h_n h + 0 + 1)) X hk B1 ho hz20 rfl dX7_init_9 tc_7_11 mm_X4_init rfl rfl (by decide) (Nat.le_of_ble_eq_true rfl) (fun h1 a1 a2 a3 a4 => by have q := c_scene (d + 0) a1 a2 a3; rw [a4] at q; exact q) (fun h2 B2 => ?_)
  refine g_putr (pc := 12) (r := some (h_n h + 0)) X B2 ho hck dX7_init_12 tf_7_12 rfl (Or.inr ⟨rfl, hnm, rfl⟩) (fun h3 B3 => ?_)
  refine r_aload_n (pc := 15) X dX7_init_15 rfl ?_
  refine g_new (pc := 16) (m := 17) X hk B3 ho dX7_init_16 tn_7_9 rfl (by decide) (by decide) (fun h4 B4 => ?_)
  refine r_dup (pc := 19) X dX7_init_19 rfl ?_
  refine g_c30 (pc := 20) (m := 17) (c1 := 16) (z1 := 123) (K1 := (kSc (h_n h + 17 + 1))) (f1 := (fun _ => 0)) (R1 := rSc (h_n h + 17 + 1)) X hk B4 ho hz20 rfl dX7_init_20 tc_7_11 mm_X4_init rfl rfl (by decide) (Nat.le_of_ble_eq_true rfl) (fun h1 a1 a2 a3 a4 => by have q := c_scene (d + 0) a1 a2 a3; rw [a4] at q; exact q) (fun h5 B5 => ?_)
  refine g_putr (pc := 23) (r := some (h_n h + 17)) X B5 ho hck dX7_init_23 tf_7_18 rfl (Or.inr ⟨rfl, hnm, rfl⟩) (fun h6 B6 => ?_)
  refine r_aload_n (pc := 26) X dX7_init_26 rfl ?_
  refine r_aload_n (pc := 27) X dX7_init_27 rfl ?_
  refine r_getr (pc := 28) (t := h_n h + 0) X dX7_init_28 tf_7_12 rfl (B6.ck ho hck) (B6.rr rfl) ?_
  refine r_getr (pc := 31) (t := h_n h + 0 + 1 + 0) X dX7_init_31 tf_7_21 rfl (B6.ckA (i := 0) hz20 (Nat.le_of_ble_eq_true rfl) rfl) (B6.re (i := 0) (Nat.le_of_ble_eq_true rfl) rfl) ?_
  refine g_putr (pc := 34) (r := some (h_n h + 0 + 1 + 0)) X B6 ho hck dX7_init_34 tf_7_25 rfl (Or.inr ⟨rfl, hnm, rfl⟩) (fun h7 B7 => ?_)
  refine r_aload_n (pc := 37) X dX7_init_37 rfl ?_
  refine g_new (pc := 38) (m := 34) X hk B7 ho dX7_init_38 tn_7_26 rfl (by decide) (by decide) (fun h8 B8 => ?_)
  refine r_dup (pc := 41) X dX7_init_41 rfl ?_
  refine g_c30 (pc := 42) (m := 34) (c1 := 6) (z1 := 54) (K1 := kSt) (f1 := fSt) (R1 := rSt (h_n h + 34 + 1)) X hk B8 ho hz20 rfl dX7_init_42 tc_7_28 mm_X5_init rfl rfl (by decide) (Nat.le_of_ble_eq_true rfl) (fun h1 a1 a2 a3 a4 => by have q := c_street (d + 1) a1 a2 a3; rw [a4] at q; exact q) (fun h9 B9 => ?_)
  refine g_putr (pc := 45) (r := some (h_n h + 34)) X B9 ho hck dX7_init_45 tf_7_29 rfl (Or.inr ⟨rfl, hnm, rfl⟩) (fun h10 B10 => ?_)
  refine r_aload_n (pc := 48) X dX7_init_48 rfl ?_
  refine g_new (pc := 49) (m := 41) X hk B10 ho dX7_init_49 tn_7_32 rfl (by decide) (by decide) (fun h11 B11 => ?_)
  refine r_dup (pc := 52) X dX7_init_52 rfl ?_
  refine g_c30 (pc := 53) (m := 41) (c1 := 2) (z1 := 200) (K1 := kRd) (f1 := (fun _ => 0)) (R1 := rRd (h_n h + 41 + 1)) X hk B11 ho hz20 rfl dX7_init_53 tc_7_34 mm_X3_init rfl rfl (by decide) (Nat.le_of_ble_eq_true rfl) (fun h1 a1 a2 a3 a4 => by have q := c_reader (d + 3) a1 a2 a3; rw [a4] at q; exact q) (fun h12 B12 => ?_)
  refine g_putr (pc := 56) (r := some (h_n h + 41)) X B12 ho hck dX7_init_56 tf_7_35 rfl (Or.inr ⟨rfl, hnm, rfl⟩) (fun h13 B13 => ?_)
  refine r_aload_n (pc := 59) X dX7_init_59 rfl ?_
  refine g_new (pc := 60) (m := 44) X hk B13 ho dX7_init_60 tn_7_39 rfl (by decide) (by decide) (fun h14 B14 => ?_)
  refine r_dup (pc := 63) X dX7_init_63 rfl ?_
  refine g_c30 (pc := 64) (m := 44) (c1 := 1) (z1 := 20) (K1 := kAc) (f1 := (fun _ => 0)) (R1 := rAc (h_n h + 44 + 1)) X hk B14 ho hz20 rfl dX7_init_64 tc_7_41 mm_X0_init rfl rfl (by decide) (Nat.le_of_ble_eq_true rfl) (fun h1 a1 a2 a3 a4 => by have q := c_acts (d + 3) a1 a2 a3; rw [a4] at q; exact q) (fun h15 B15 => ?_)
  refine g_putr (pc := 67) (r := some (h_n h + 44)) X B15 ho hck dX7_init_67 tf_7_42 rfl (Or.inr ⟨rfl, hnm, rfl⟩) (fun h16 B16 => ?_)
  refine r_aload_n (pc := 70) X dX7_init_70 rfl ?_
  refine g_new (pc := 71) (m := 46) X hk B16 ho dX7_init_71 tn_7_46 rfl (by decide) (by decide) (fun h17 B17 => ?_)
  refine r_dup (pc := 74) X dX7_init_74 rfl ?_
  refine g_c20 (pc := 75) (m := 46) (c1 := 9) (z1 := 378) (K1 := (kTp (h_n h + 46 + 1))) (f1 := (fun _ => 0)) (R1 := rTp (h_n h + 46 + 1)) X hk B17 ho hz20 rfl dX7_init_75 tc_7_48 mm_X6_init rfl rfl (by decide) (Nat.le_of_ble_eq_true rfl) (fun h1 a1 a2 a3 a4 => by have q := c_tapes (d + 1) a1 a2 a3; rw [a4] at q; exact q) (fun h18 B18 => ?_)
  refine g_putr (pc := 78) (r := some (h_n h + 46)) X B18 ho hck dX7_init_78 tf_7_49 rfl (Or.inr ⟨rfl, hnm, rfl⟩) (fun h19 B19 => ?_)
  refine r_vret (pc := 81) X dX7_init_81 rfl ?_
  exact ⟨⟨rfl, B19⟩, Prod.ext B19.1.1 B19.1.2⟩
