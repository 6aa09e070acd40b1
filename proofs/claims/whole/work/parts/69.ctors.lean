/-! the constructors -/
def kPr (n : Nat) : List CD := [nw 1 n, nw 1 n]
def rPr (n : Nat) : Nat → Option Nat := va_up (va_up (fun _ => none) 0 (some (n + 0))) 1 (some (n + 1))
def kSt : List CD := [nw 1 6, nw 1 6, nw 1 6, nw 1 6, nw 1 6, nw 1 24]
def fSt : Nat → Int32 := upd (fun _ => 0) 10 (-5)
def rSt (n : Nat) : Nat → Option Nat := va_up (va_up (va_up (va_up (va_up (va_up (fun _ => none) 0 (some (n + 0))) 1 (some (n + 1))) 2 (some (n + 2))) 3 (some (n + 3))) 4 (some (n + 4))) 5 (some (n + 5))
def kSc (n : Nat) : List CD := [((0, 5), fSt, rSt (n + 0 + 1))] ++ kSt ++ [((0, 2), (fun _ => 0), rPr (n + 7 + 1))] ++ kPr 6 ++ [((0, 2), (fun _ => 0), rPr (n + 10 + 1))] ++ kPr 10 ++ [((0, 2), (fun _ => 0), rPr (n + 13 + 1))] ++ kPr 8
def rSc (n : Nat) : Nat → Option Nat := va_up (va_up (va_up (va_up (fun _ => none) 0 (some (n + 0))) 1 (some (n + 7))) 2 (some (n + 10))) 3 (some (n + 13))
def kRd : List CD := [nw 2 100, nw 1 100]
def rRd (n : Nat) : Nat → Option Nat := va_up (va_up (fun _ => none) 0 (some (n + 0))) 4 (some (n + 1))
def kAc : List CD := [nw 1 20]
def rAc (n : Nat) : Nat → Option Nat := va_up (fun _ => none) 0 (some (n + 0))
def kTp (n : Nat) : List CD := [((1, 6), fillI (fun _ => 0) 6 (-1), fun _ => none), nw 1 6, rw6 (n + 2), nw 4 60, nw 4 60, nw 4 60, nw 4 60, nw 4 60, nw 4 60]
def rTp (n : Nat) : Nat → Option Nat := va_up (va_up (va_up (fun _ => none) 0 (some (n + 0))) 1 (some (n + 1))) 2 (some (n + 2))
def kLp (n : Nat) : List CD := [((0, 4), (fun _ => 0), rSc (n + 0 + 1))] ++ kSc (n + 0 + 1) ++ [((0, 4), (fun _ => 0), rSc (n + 17 + 1))] ++ kSc (n + 17 + 1) ++ [((0, 5), fSt, rSt (n + 34 + 1))] ++ kSt ++ [((0, 3), (fun _ => 0), rRd (n + 41 + 1))] ++ kRd ++ [((0, 0), (fun _ => 0), rAc (n + 44 + 1))] ++ kAc ++ [((0, 6), (fun _ => 0), rTp (n + 46 + 1))] ++ kTp (n + 46 + 1)
def rLp (n : Nat) : Nat → Option Nat := va_up (va_up (va_up (va_up (va_up (va_up (va_up (fun _ => none) 0 (some (n + 0))) 1 (some (n + 17))) 3 (some (n + 0 + 1 + 0))) 4 (some (n + 34))) 5 (some (n + 41))) 7 (some (n + 44))) 8 (some (n + 46))
set_option maxRecDepth 10000 in
set_option maxHeartbeats 8000000 in
theorem c_pairs : ∀ (d : Nat) (n : Nat) {h : hp_T} {o : Nat} (hck : ck h o 0 2) (hf : h_i h o = fun _ => 0) (hr : h_r h o = fun _ => none) (hn : n < 65536), Ex (d + 1) nX2_init [.ref o, .int (nI n)] h 2 (0 + n + n) (fun v2 h2 => v2 = none ∧ Bs h o (0 + n + n) (kPr n) (fun _ => 0) (rPr (h_n h)) h2) := by
  intro d n h o hck hf hr hn
  have ho := hck.2.2
  have hz20 : 23 ≤ h_n h := Nat.le_of_lt (Nat.lt_of_le_of_lt hck.2.1 ho)
  have B0 := Bs.start hf hr
  refine Ex.of mm_X2_init (Nat.le_of_ble_eq_true rfl) fun w κ X hk hnm => ?_
  refine r_aload_n (pc := 0) X dX2_init_0 rfl ?_
  refine r_obj (pc := 1) X rfl dX2_init_1 to_2_3 (Nat.le_of_ble_eq_true rfl) hck.2.1 ?_
  refine r_aload_n (pc := 4) X dX2_init_4 rfl ?_
  refine r_iload_n (pc := 5) X dX2_init_5 rfl ?_
  refine g_newa1 (pc := 6) (n := n) (m := 0) X hk B0 ho dX2_init_6 rfl hn rfl ⟨by omega, by omega⟩ (fun h1 B1 => ?_)
  refine g_putr (pc := 8) (r := some (h_n h + 0)) X B1 ho hck dX2_init_8 tf_2_9 rfl (Or.inr ⟨rfl, hnm, rfl⟩) (fun h2 B2 => ?_)
  refine r_aload_n (pc := 11) X dX2_init_11 rfl ?_
  refine r_iload_n (pc := 12) X dX2_init_12 rfl ?_
  refine g_newa1 (pc := 13) (n := n) (m := 1) X hk B2 ho dX2_init_13 rfl hn rfl ⟨by omega, by omega⟩ (fun h3 B3 => ?_)
  refine g_putr (pc := 15) (r := some (h_n h + 1)) X B3 ho hck dX2_init_15 tf_2_15 rfl (Or.inr ⟨rfl, hnm, rfl⟩) (fun h4 B4 => ?_)
  refine r_vret (pc := 18) X dX2_init_18 rfl ?_
  exact ⟨⟨rfl, B4⟩, Prod.ext B4.1.1 B4.1.2⟩
set_option maxRecDepth 10000 in
set_option maxHeartbeats 8000000 in
theorem c_acts : ∀ (d : Nat) {h : hp_T} {o : Nat} (hck : ck h o 0 0) (hf : h_i h o = fun _ => 0) (hr : h_r h o = fun _ => none), Ex (d + 1) nX0_init [.ref o] h 1 (20) (fun v2 h2 => v2 = none ∧ Bs h o (20) kAc (fun _ => 0) (rAc (h_n h)) h2) := by
  intro d h o hck hf hr
  have ho := hck.2.2
  have hz20 : 23 ≤ h_n h := Nat.le_of_lt (Nat.lt_of_le_of_lt hck.2.1 ho)
  have B0 := Bs.start hf hr
  refine Ex.of mm_X0_init (Nat.le_of_ble_eq_true rfl) fun w κ X hk hnm => ?_
  refine r_aload_n (pc := 0) X dX0_init_0 rfl ?_
  refine r_obj (pc := 1) X rfl dX0_init_1 to_0_3 (Nat.le_of_ble_eq_true rfl) hck.2.1 ?_
  refine r_aload_n (pc := 4) X dX0_init_4 rfl ?_
  refine r_bipush (pc := 5) (v := (nI 20)) X dX0_init_5 (by decide) ?_
  refine g_newa1 (pc := 7) (n := 20) (m := 0) X hk B0 ho dX0_init_7 rfl (by decide) rfl (by decide) (fun h1 B1 => ?_)
  refine g_putr (pc := 9) (r := some (h_n h + 0)) X B1 ho hck dX0_init_9 tf_0_11 rfl (Or.inr ⟨rfl, hnm, rfl⟩) (fun h2 B2 => ?_)
  refine r_vret (pc := 12) X dX0_init_12 rfl ?_
  exact ⟨⟨rfl, B2⟩, Prod.ext B2.1.1 B2.1.2⟩
set_option maxRecDepth 10000 in
set_option maxHeartbeats 8000000 in
theorem c_reader : ∀ (d : Nat) {h : hp_T} {o : Nat} (hck : ck h o 0 3) (hf : h_i h o = fun _ => 0) (hr : h_r h o = fun _ => none), Ex (d + 1) nX3_init [.ref o] h 2 (200) (fun v2 h2 => v2 = none ∧ Bs h o (200) kRd (fun _ => 0) (rRd (h_n h)) h2) := by
  intro d h o hck hf hr
  have ho := hck.2.2
  have hz20 : 23 ≤ h_n h := Nat.le_of_lt (Nat.lt_of_le_of_lt hck.2.1 ho)
  have B0 := Bs.start hf hr
  refine Ex.of mm_X3_init (Nat.le_of_ble_eq_true rfl) fun w κ X hk hnm => ?_
  refine r_aload_n (pc := 0) X dX3_init_0 rfl ?_
  refine r_obj (pc := 1) X rfl dX3_init_1 to_3_3 (Nat.le_of_ble_eq_true rfl) hck.2.1 ?_
  refine r_aload_n (pc := 4) X dX3_init_4 rfl ?_
  refine r_bipush (pc := 5) (v := (nI 100)) X dX3_init_5 (by decide) ?_
  refine g_newa2 (pc := 7) (n := 100) (m := 0) X hk B0 ho dX3_init_7 rfl (by decide) rfl (by decide) (fun h1 B1 => ?_)
  refine g_putr (pc := 9) (r := some (h_n h + 0)) X B1 ho hck dX3_init_9 tf_3_11 rfl (Or.inr ⟨rfl, hnm, rfl⟩) (fun h2 B2 => ?_)
  refine r_aload_n (pc := 12) X dX3_init_12 rfl ?_
  refine r_bipush (pc := 13) (v := (nI 100)) X dX3_init_13 (by decide) ?_
  refine g_newa1 (pc := 15) (n := 100) (m := 1) X hk B2 ho dX3_init_15 rfl (by decide) rfl (by decide) (fun h3 B3 => ?_)
  refine g_putr (pc := 17) (r := some (h_n h + 1)) X B3 ho hck dX3_init_17 tf_3_15 rfl (Or.inr ⟨rfl, hnm, rfl⟩) (fun h4 B4 => ?_)
  refine r_vret (pc := 20) X dX3_init_20 rfl ?_
  exact ⟨⟨rfl, B4⟩, Prod.ext B4.1.1 B4.1.2⟩
set_option maxRecDepth 10000 in
set_option maxHeartbeats 8000000 in
theorem c_street : ∀ (d : Nat) {h : hp_T} {o : Nat} (hck : ck h o 0 5) (hf : h_i h o = fun _ => 0) (hr : h_r h o = fun _ => none), Ex (d + 3) nX5_init [.ref o] h 6 (54) (fun v2 h2 => v2 = none ∧ Bs h o (54) kSt fSt (rSt (h_n h)) h2) := by
  intro d h o hck hf hr
  have ho := hck.2.2
  have hz20 : 23 ≤ h_n h := Nat.le_of_lt (Nat.lt_of_le_of_lt hck.2.1 ho)
  have B0 := Bs.start hf hr
  refine Ex.of mm_X5_init (Nat.le_of_ble_eq_true rfl) fun w κ X hk hnm => ?_
  refine r_aload_n (pc := 0) X dX5_init_0 rfl ?_
  refine r_obj (pc := 1) X rfl dX5_init_1 to_5_3 (Nat.le_of_ble_eq_true rfl) hck.2.1 ?_
  refine r_aload_n (pc := 4) X dX5_init_4 rfl ?_
  refine r_bipush (pc := 5) (v := (nI 6)) X dX5_init_5 (by decide) ?_
  refine g_newa1 (pc := 7) (n := 6) (m := 0) X hk B0 ho dX5_init_7 rfl (by decide) rfl (by decide) (fun h1 B1 => ?_)
  refine g_putr (pc := 9) (r := some (h_n h + 0)) X B1 ho hck dX5_init_9 tf_5_9 rfl (Or.inr ⟨rfl, hnm, rfl⟩) (fun h2 B2 => ?_)
  refine r_aload_n (pc := 12) X dX5_init_12 rfl ?_
  refine r_bipush (pc := 13) (v := (nI 6)) X dX5_init_13 (by decide) ?_
  refine g_newa1 (pc := 15) (n := 6) (m := 1) X hk B2 ho dX5_init_15 rfl (by decide) rfl (by decide) (fun h3 B3 => ?_)
  refine g_putr (pc := 17) (r := some (h_n h + 1)) X B3 ho hck dX5_init_17 tf_5_15 rfl (Or.inr ⟨rfl, hnm, rfl⟩) (fun h4 B4 => ?_)
  refine r_aload_n (pc := 20) X dX5_init_20 rfl ?_
  refine r_bipush (pc := 21) (v := (nI 6)) X dX5_init_21 (by decide) ?_
  refine g_newa1 (pc := 23) (n := 6) (m := 2) X hk B4 ho dX5_init_23 rfl (by decide) rfl (by decide) (fun h5 B5 => ?_)
  refine g_putr (pc := 25) (r := some (h_n h + 2)) X B5 ho hck dX5_init_25 tf_5_18 rfl (Or.inr ⟨rfl, hnm, rfl⟩) (fun h6 B6 => ?_)
  refine r_aload_n (pc := 28) X dX5_init_28 rfl ?_
  refine r_bipush (pc := 29) (v := (nI 6)) X dX5_init_29 (by decide) ?_
  refine g_newa1 (pc := 31) (n := 6) (m := 3) X hk B6 ho dX5_init_31 rfl (by decide) rfl (by decide) (fun h7 B7 => ?_)
  refine g_putr (pc := 33) (r := some (h_n h + 3)) X B7 ho hck dX5_init_33 tf_5_21 rfl (Or.inr ⟨rfl, hnm, rfl⟩) (fun h8 B8 => ?_)
  refine r_aload_n (pc := 36) X dX5_init_36 rfl ?_
  refine r_bipush (pc := 37) (v := (nI 6)) X dX5_init_37 (by decide) ?_
  refine g_newa1 (pc := 39) (n := 6) (m := 4) X hk B8 ho dX5_init_39 rfl (by decide) rfl (by decide) (fun h9 B9 => ?_)
  refine g_putr (pc := 41) (r := some (h_n h + 4)) X B9 ho hck dX5_init_41 tf_5_24 rfl (Or.inr ⟨rfl, hnm, rfl⟩) (fun h10 B10 => ?_)
  refine r_aload_n (pc := 44) X dX5_init_44 rfl ?_
  refine r_bipush (pc := 45) (v := (nI 24)) X dX5_init_45 (by decide) ?_
  refine g_newa1 (pc := 47) (n := 24) (m := 5) X hk B10 ho dX5_init_47 rfl (by decide) rfl (by decide) (fun h11 B11 => ?_)
  refine g_putr (pc := 49) (r := some (h_n h + 5)) X B11 ho hck dX5_init_49 tf_5_27 rfl (Or.inr ⟨rfl, hnm, rfl⟩) (fun h12 B12 => ?_)
  refine r_aload_n (pc := 52) X dX5_init_52 rfl ?_
  refine r_bipush (pc := 53) (v := (-5)) X dX5_init_53 (by decide) ?_
  refine g_puti (pc := 55) X B12 ho hck dX5_init_55 tf_5_30 rfl (Or.inl rfl) ⟨rfl, rfl⟩ (fun h13 B13 => ?_)
  refine r_vret (pc := 58) X dX5_init_58 rfl ?_
  exact ⟨⟨rfl, B13⟩, Prod.ext B13.1.1 B13.1.2⟩
set_option maxRecDepth 10000 in
set_option maxHeartbeats 8000000 in
theorem c_tapes : ∀ (d : Nat) {h : hp_T} {o : Nat} (hck : ck h o 0 6) (hf : h_i h o = fun _ => 0) (hr : h_r h o = fun _ => none), Ex (d + 3) nX6_init [.ref o] h 9 (378) (fun v2 h2 => v2 = none ∧ Bs h o (378) (kTp (h_n h)) (fun _ => 0) (rTp (h_n h)) h2) := by
  intro d h o hck hf hr
  have ho := hck.2.2
  have hz20 : 23 ≤ h_n h := Nat.le_of_lt (Nat.lt_of_le_of_lt hck.2.1 ho)
  have B0 := Bs.start hf hr
  refine Ex.of mm_X6_init (Nat.le_of_ble_eq_true rfl) fun w κ X hk hnm => ?_
  refine r_aload_n (pc := 0) X dX6_init_0 rfl ?_
  refine r_obj (pc := 1) X rfl dX6_init_1 to_6_3 (Nat.le_of_ble_eq_true rfl) hck.2.1 ?_
  refine r_aload_n (pc := 4) X dX6_init_4 rfl ?_
  refine r_bipush (pc := 5) (v := (nI 6)) X dX6_init_5 (by decide) ?_
  refine g_newa1 (pc := 7) (n := 6) (m := 0) X hk B0 ho dX6_init_7 rfl (by decide) rfl (by decide) (fun h1 B1 => ?_)
  refine g_putr (pc := 9) (r := some (h_n h + 0)) X B1 ho hck dX6_init_9 tf_6_11 rfl (Or.inr ⟨rfl, hnm, rfl⟩) (fun h2 B2 => ?_)
  refine r_aload_n (pc := 12) X dX6_init_12 rfl ?_
  refine r_bipush (pc := 13) (v := (nI 6)) X dX6_init_13 (by decide) ?_
  refine g_newa1 (pc := 15) (n := 6) (m := 1) X hk B2 ho dX6_init_15 rfl (by decide) rfl (by decide) (fun h3 B3 => ?_)
  refine g_putr (pc := 17) (r := some (h_n h + 1)) X B3 ho hck dX6_init_17 tf_6_15 rfl (Or.inr ⟨rfl, hnm, rfl⟩) (fun h4 B4 => ?_)
  refine r_aload_n (pc := 20) X dX6_init_20 rfl ?_
  refine r_bipush (pc := 21) (v := (nI 6)) X dX6_init_21 (by decide) ?_
  refine r_bipush (pc := 23) (v := (nI 60)) X dX6_init_23 (by decide) ?_
  refine g_mnew (pc := 25) (m := 2) X hk B4 ho dX6_init_25 tw_6_18 rfl (by decide) (fun h5 B5 => ?_)
  refine g_putr (pc := 29) (r := some (h_n h + 2)) X B5 ho hck dX6_init_29 tf_6_20 rfl (Or.inr ⟨rfl, hnm, rfl⟩) (fun h6 B6 => ?_)
  refine r_aload_n (pc := 32) X dX6_init_32 rfl ?_
  refine r_getr (pc := 33) (t := h_n h + 0) X dX6_init_33 tf_6_11 rfl (B6.ck ho hck) (B6.rr rfl) ?_
  refine r_iconst (pc := 36) (v := (-1)) X dX6_init_36 (by decide) ?_
  refine g_fill (pc := 37) (i := 0) (n := 6) (K2 := (kTp (h_n h))) X B6 ho hz20 rfl dX6_init_37 tc_6_23 (Nat.le_of_ble_eq_true rfl) rfl (by decide) rfl (Nat.le_of_ble_eq_true rfl) (fun h7 B7 => ?_)
  refine r_vret (pc := 40) X dX6_init_40 rfl ?_
  exact ⟨⟨rfl, B7⟩, Prod.ext B7.1.1 B7.1.2⟩
