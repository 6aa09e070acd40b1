/-! the law: an evening; the loop; where it begins -/
set_option maxRecDepth 10000 in
set_option maxHeartbeats 4000000 in
theorem lw_evening {w : wc_T} {κ : cx_T} {d B j : Nat} {Φ : Option Value → hp_T → Prop} (X : CX w κ (d + 31) 9 code 4 ret Φ) (hκ : k_1 κ = (135, 3491)) (hj : 6 * j + 6 ≤ w.2.2.2.2.2.1) (hN : w.2.2.2.2.2.1 ≤ 3072) (hB : B ≤ 9000) {h : hp_T} (I : Inv B 2852 h) (next : ∀ h1, Inv (B + 2) 2852 h1 → GG w κ 1327 [some (.ref 0), some (.ref 23), some (.ref 80), some (.int (nI (6 * j)))] [] h1) : GG w κ 441 [some (.ref 0), some (.ref 23), some (.ref 80), some (.int (nI (6 * j)))] [] h := by
  obtain ⟨σ, R, m, O, hs⟩ := I
  have C := R.C
  have hn := R.ev.2.1
  have h7 := O.2.2.1.1
  show GG w κ _ _ _ (wi h (h_i h))
  have fin : ∀ (v1 : Option Value) (h1 : hp_T), QE (f_evening σ) h (h_i h) v1 h1 → 2 * h_s h1 + 103 * 123 ≤ 2 * 2852 + 103 * h_n h1 → GG w κ 445 [some (.ref 0), some (.ref 23), some (.ref 80), some (.int (nI (6 * j)))] (v1.toList ++ []) h1 := by
    intro v1 h1 q1 hs1
    obtain ⟨rfl, g, M1, rfl, R1, m1⟩ := lw_e1 q1 m
    have C1 := R1.C
    have hs1 : 2 * h_s g + 103 * 123 ≤ 2 * 2852 + 103 * h_n g := hs1
    show GG w κ _ _ (Value.int _ :: []) _
    refine r_aload_n (pc := 445) X dLaw_445 rfl ?_
    refine r_c0_0G (pc := 446) X rfl dLaw_446 tc_9_49 mm_X8_evening (kc_80 C1) rfl rfl (n_evening (d + 21) C1 m1 O) (Nat.le_of_ble_eq_true rfl) (fun v2 h2 q2 => ?_)
    obtain ⟨rfl, I2⟩ := lw_c2 (B := B + 2) (S := 2852) R1 q2 (o_evening O (by omega)) hs1
    show GG w κ _ _ (Value.int _ :: Value.int _ :: []) _
    exact r_icmp_eq (pc := 449) X dLaw_449 (tgt := 1327) (by decide) (fun _ => next _ I2) (fun c => absurd rfl c)
  refine r_aload_n (pc := 441) X dLaw_441 rfl ?_
  by_cases h6 : 6 ≤ (sEv σ).length
  · skip
    refine r_c0_0M (pc := 442) X rfl dLaw_442 tc_9_45 mm_X7_evening (kc_23 C) rfl rfl (k_eve_full d R O h6) (by rw [hκ]; exact ⟨by show h_n h + 0 ≤ 135; omega, by show h_s h + 0 ≤ 3491; omega⟩) (Nat.le_of_ble_eq_true rfl) (fun v1 h1 q1 u1 => fin v1 h1 q1 ?_)
    have a1 : h_n h1 = h_n h + 0 := congrArg Prod.fst u1
    have a2 : h_s h1 = h_s h + 0 := congrArg Prod.snd u1
    omega
  · cases hst : standF (sXt σ)
    · skip
      refine r_c0_0M (pc := 442) X rfl dLaw_442 tc_9_45 mm_X7_evening (kc_23 C) rfl rfl (k_eve_no d R O h6 hst) (by rw [hκ]; exact ⟨by show h_n h + 0 ≤ 135; omega, by show h_s h + 0 ≤ 3491; omega⟩) (Nat.le_of_ble_eq_true rfl) (fun v1 h1 q1 u1 => fin v1 h1 q1 ?_)
      have a1 : h_n h1 = h_n h + 0 := congrArg Prod.fst u1
      have a2 : h_s h1 = h_s h + 0 := congrArg Prod.snd u1
      omega
    · have h100 := (ev_h100 hst O.2.2.2.1.1).2.2
      refine r_c0_0M (pc := 442) X rfl dLaw_442 tc_9_45 mm_X7_evening (kc_23 C) rfl rfl (k_eve_ok d R O h6 hst h100) (by rw [hκ]; exact ⟨by show h_n h + 2 ≤ 135; omega, by show h_s h + (3 + (compF (sXt σ)).2.2.1.length) ≤ 3491; omega⟩) (Nat.le_of_ble_eq_true rfl) (fun v1 h1 q1 u1 => fin v1 h1 q1 ?_)
      have a1 : h_n h1 = h_n h + 2 := congrArg Prod.fst u1
      have a2 : h_s h1 = h_s h + (3 + (compF (sXt σ)).2.2.1.length) := congrArg Prod.snd u1
      omega
section SW75
variable {w : wc_T} {κ : cx_T} {d nL : Nat} {rt : Option FieldType} {Φ : Option Value → hp_T → Prop} {L : List (Option Value)} {st : List Value} {h : hp_T}
set_option maxRecDepth 4000 in
set_option maxHeartbeats 4000000 in
theorem sw_Law_33 (X : CX w κ d 9 code nL rt Φ) {x : Int32} (k0 : GG w κ 200 L st h) (k1 : GG w κ 253 L st h) (k2 : GG w κ 286 L st h) (k3 : GG w κ 329 L st h) (k4 : GG w κ 372 L st h) (k5 : GG w κ 395 L st h) (k6 : GG w κ 418 L st h) (k7 : GG w κ 441 L st h) (k8 : GG w κ 454 L st h) (k9 : GG w κ 477 L st h) (k10 : GG w κ 490 L st h) (k11 : GG w κ 523 L st h) (k12 : GG w κ 536 L st h) (k13 : GG w κ 549 L st h) (k14 : GG w κ 592 L st h) (k15 : GG w κ 625 L st h) (k16 : GG w κ 648 L st h) (k17 : GG w κ 661 L st h) (k18 : GG w κ 684 L st h) (k19 : GG w κ 717 L st h) (k20 : GG w κ 730 L st h) (k21 : GG w κ 763 L st h) (k22 : GG w κ 797 L st h) (k23 : GG w κ 831 L st h) (k24 : GG w κ 864 L st h) (k25 : GG w κ 887 L st h) (k26 : GG w κ 920 L st h) (k27 : GG w κ 933 L st h) (k28 : GG w κ 966 L st h) (k29 : GG w κ 979 L st h) (k30 : GG w κ 992 L st h) (k31 : GG w κ 1035 L st h) (k32 : GG w κ 1058 L st h) (k33 : GG w κ 1091 L st h) (k34 : GG w κ 1114 L st h) (k35 : GG w κ 1157 L st h) (k36 : GG w κ 1230 L st h) (k37 : GG w κ 1264 L st h) (kd : GG w κ 1327 L st h) : GG w κ 33 L (.int x :: st) h := by
  by_cases h0 : x = nI 0
  · exact r_tableIn (tgt := 200) X dLaw_33 (by rw [h0]; decide) (by rw [h0]; decide) (by rw [h0]; rfl) (by decide) k0
  by_cases h1 : x = nI 1
  · exact r_tableIn (tgt := 253) X dLaw_33 (by rw [h1]; decide) (by rw [h1]; decide) (by rw [h1]; rfl) (by decide) k1
  by_cases h2 : x = nI 2
  · exact r_tableIn (tgt := 286) X dLaw_33 (by rw [h2]; decide) (by rw [h2]; decide) (by rw [h2]; rfl) (by decide) k2
  by_cases h3 : x = nI 3
  · exact r_tableIn (tgt := 329) X dLaw_33 (by rw [h3]; decide) (by rw [h3]; decide) (by rw [h3]; rfl) (by decide) k3
  by_cases h4 : x = nI 4
  · exact r_tableIn (tgt := 372) X dLaw_33 (by rw [h4]; decide) (by rw [h4]; decide) (by rw [h4]; rfl) (by decide) k4
  by_cases h5 : x = nI 5
  · exact r_tableIn (tgt := 395) X dLaw_33 (by rw [h5]; decide) (by rw [h5]; decide) (by rw [h5]; rfl) (by decide) k5
  by_cases h6 : x = nI 6
  · exact r_tableIn (tgt := 418) X dLaw_33 (by rw [h6]; decide) (by rw [h6]; decide) (by rw [h6]; rfl) (by decide) k6
  by_cases h7 : x = nI 7
  · exact r_tableIn (tgt := 441) X dLaw_33 (by rw [h7]; decide) (by rw [h7]; decide) (by rw [h7]; rfl) (by decide) k7
  by_cases h8 : x = nI 8
  · exact r_tableIn (tgt := 454) X dLaw_33 (by rw [h8]; decide) (by rw [h8]; decide) (by rw [h8]; rfl) (by decide) k8
  by_cases h9 : x = nI 9
  · exact r_tableIn (tgt := 477) X dLaw_33 (by rw [h9]; decide) (by rw [h9]; decide) (by rw [h9]; rfl) (by decide) k9
  by_cases h10 : x = nI 10
  · exact r_tableIn (tgt := 490) X dLaw_33 (by rw [h10]; decide) (by rw [h10]; decide) (by rw [h10]; rfl) (by decide) k10
  by_cases h11 : x = nI 11
  · exact r_tableIn (tgt := 523) X dLaw_33 (by rw [h11]; decide) (by rw [h11]; decide) (by rw [h11]; rfl) (by decide) k11
  by_cases h12 : x = nI 12
  · exact r_tableIn (tgt := 536) X dLaw_33 (by rw [h12]; decide) (by rw [h12]; decide) (by rw [h12]; rfl) (by decide) k12
  by_cases h13 : x = nI 13
  · exact r_tableIn (tgt := 549) X dLaw_33 (by rw [h13]; decide) (by rw [h13]; decide) (by rw [h13]; rfl) (by decide) k13
  by_cases h14 : x = nI 14
  · exact r_tableIn (tgt := 592) X dLaw_33 (by rw [h14]; decide) (by rw [h14]; decide) (by rw [h14]; rfl) (by decide) k14
  by_cases h15 : x = nI 15
  · exact r_tableIn (tgt := 625) X dLaw_33 (by rw [h15]; decide) (by rw [h15]; decide) (by rw [h15]; rfl) (by decide) k15
  by_cases h16 : x = nI 16
  · exact r_tableIn (tgt := 648) X dLaw_33 (by rw [h16]; decide) (by rw [h16]; decide) (by rw [h16]; rfl) (by decide) k16
  by_cases h17 : x = nI 17
  · exact r_tableIn (tgt := 661) X dLaw_33 (by rw [h17]; decide) (by rw [h17]; decide) (by rw [h17]; rfl) (by decide) k17
  by_cases h18 : x = nI 18
  · exact r_tableIn (tgt := 684) X dLaw_33 (by rw [h18]; decide) (by rw [h18]; decide) (by rw [h18]; rfl) (by decide) k18
  by_cases h19 : x = nI 19
  · exact r_tableIn (tgt := 717) X dLaw_33 (by rw [h19]; decide) (by rw [h19]; decide) (by rw [h19]; rfl) (by decide) k19
  by_cases h20 : x = nI 20
  · exact r_tableIn (tgt := 730) X dLaw_33 (by rw [h20]; decide) (by rw [h20]; decide) (by rw [h20]; rfl) (by decide) k20
  by_cases h21 : x = nI 21
  · exact r_tableIn (tgt := 763) X dLaw_33 (by rw [h21]; decide) (by rw [h21]; decide) (by rw [h21]; rfl) (by decide) k21
  by_cases h22 : x = nI 22
  · exact r_tableIn (tgt := 797) X dLaw_33 (by rw [h22]; decide) (by rw [h22]; decide) (by rw [h22]; rfl) (by decide) k22
  by_cases h23 : x = nI 23
  · exact r_tableIn (tgt := 831) X dLaw_33 (by rw [h23]; decide) (by rw [h23]; decide) (by rw [h23]; rfl) (by decide) k23
  by_cases h24 : x = nI 24
  · exact r_tableIn (tgt := 864) X dLaw_33 (by rw [h24]; decide) (by rw [h24]; decide) (by rw [h24]; rfl) (by decide) k24
  by_cases h25 : x = nI 25
  · exact r_tableIn (tgt := 887) X dLaw_33 (by rw [h25]; decide) (by rw [h25]; decide) (by rw [h25]; rfl) (by decide) k25
  by_cases h26 : x = nI 26
  · exact r_tableIn (tgt := 920) X dLaw_33 (by rw [h26]; decide) (by rw [h26]; decide) (by rw [h26]; rfl) (by decide) k26
  by_cases h27 : x = nI 27
  · exact r_tableIn (tgt := 933) X dLaw_33 (by rw [h27]; decide) (by rw [h27]; decide) (by rw [h27]; rfl) (by decide) k27
  by_cases h28 : x = nI 28
  · exact r_tableIn (tgt := 966) X dLaw_33 (by rw [h28]; decide) (by rw [h28]; decide) (by rw [h28]; rfl) (by decide) k28
  by_cases h29 : x = nI 29
  · exact r_tableIn (tgt := 979) X dLaw_33 (by rw [h29]; decide) (by rw [h29]; decide) (by rw [h29]; rfl) (by decide) k29
  by_cases h30 : x = nI 30
  · exact r_tableIn (tgt := 992) X dLaw_33 (by rw [h30]; decide) (by rw [h30]; decide) (by rw [h30]; rfl) (by decide) k30
  by_cases h31 : x = nI 31
  · exact r_tableIn (tgt := 1035) X dLaw_33 (by rw [h31]; decide) (by rw [h31]; decide) (by rw [h31]; rfl) (by decide) k31
  by_cases h32 : x = nI 32
  · exact r_tableIn (tgt := 1058) X dLaw_33 (by rw [h32]; decide) (by rw [h32]; decide) (by rw [h32]; rfl) (by decide) k32
  by_cases h33 : x = nI 33
  · exact r_tableIn (tgt := 1091) X dLaw_33 (by rw [h33]; decide) (by rw [h33]; decide) (by rw [h33]; rfl) (by decide) k33
  by_cases h34 : x = nI 34
  · exact r_tableIn (tgt := 1114) X dLaw_33 (by rw [h34]; decide) (by rw [h34]; decide) (by rw [h34]; rfl) (by decide) k34
  by_cases h35 : x = nI 35
  · exact r_tableIn (tgt := 1157) X dLaw_33 (by rw [h35]; decide) (by rw [h35]; decide) (by rw [h35]; rfl) (by decide) k35
  by_cases h36 : x = nI 36
  · exact r_tableIn (tgt := 1230) X dLaw_33 (by rw [h36]; decide) (by rw [h36]; decide) (by rw [h36]; rfl) (by decide) k36
  by_cases h37 : x = nI 37
  · exact r_tableIn (tgt := 1264) X dLaw_33 (by rw [h37]; decide) (by rw [h37]; decide) (by rw [h37]; rfl) (by decide) k37
  have g0 : ¬ x.toInt = 0 := ne_toInt h0 (by decide)
  have g1 : ¬ x.toInt = 1 := ne_toInt h1 (by decide)
  have g2 : ¬ x.toInt = 2 := ne_toInt h2 (by decide)
  have g3 : ¬ x.toInt = 3 := ne_toInt h3 (by decide)
  have g4 : ¬ x.toInt = 4 := ne_toInt h4 (by decide)
  have g5 : ¬ x.toInt = 5 := ne_toInt h5 (by decide)
  have g6 : ¬ x.toInt = 6 := ne_toInt h6 (by decide)
  have g7 : ¬ x.toInt = 7 := ne_toInt h7 (by decide)
  have g8 : ¬ x.toInt = 8 := ne_toInt h8 (by decide)
  have g9 : ¬ x.toInt = 9 := ne_toInt h9 (by decide)
  have g10 : ¬ x.toInt = 10 := ne_toInt h10 (by decide)
  have g11 : ¬ x.toInt = 11 := ne_toInt h11 (by decide)
  have g12 : ¬ x.toInt = 12 := ne_toInt h12 (by decide)
  have g13 : ¬ x.toInt = 13 := ne_toInt h13 (by decide)
  have g14 : ¬ x.toInt = 14 := ne_toInt h14 (by decide)
  have g15 : ¬ x.toInt = 15 := ne_toInt h15 (by decide)
  have g16 : ¬ x.toInt = 16 := ne_toInt h16 (by decide)
  have g17 : ¬ x.toInt = 17 := ne_toInt h17 (by decide)
  have g18 : ¬ x.toInt = 18 := ne_toInt h18 (by decide)
  have g19 : ¬ x.toInt = 19 := ne_toInt h19 (by decide)
  have g20 : ¬ x.toInt = 20 := ne_toInt h20 (by decide)
  have g21 : ¬ x.toInt = 21 := ne_toInt h21 (by decide)
  have g22 : ¬ x.toInt = 22 := ne_toInt h22 (by decide)
  have g23 : ¬ x.toInt = 23 := ne_toInt h23 (by decide)
  have g24 : ¬ x.toInt = 24 := ne_toInt h24 (by decide)
  have g25 : ¬ x.toInt = 25 := ne_toInt h25 (by decide)
  have g26 : ¬ x.toInt = 26 := ne_toInt h26 (by decide)
  have g27 : ¬ x.toInt = 27 := ne_toInt h27 (by decide)
  have g28 : ¬ x.toInt = 28 := ne_toInt h28 (by decide)
  have g29 : ¬ x.toInt = 29 := ne_toInt h29 (by decide)
  have g30 : ¬ x.toInt = 30 := ne_toInt h30 (by decide)
  have g31 : ¬ x.toInt = 31 := ne_toInt h31 (by decide)
  have g32 : ¬ x.toInt = 32 := ne_toInt h32 (by decide)
  have g33 : ¬ x.toInt = 33 := ne_toInt h33 (by decide)
  have g34 : ¬ x.toInt = 34 := ne_toInt h34 (by decide)
  have g35 : ¬ x.toInt = 35 := ne_toInt h35 (by decide)
  have g36 : ¬ x.toInt = 36 := ne_toInt h36 (by decide)
  have g37 : ¬ x.toInt = 37 := ne_toInt h37 (by decide)
  exact r_tableOut (tgt := 1327) X dLaw_33 (by omega) (by decide) kd
end SW75
theorem lw_cmp {N i : Nat} (hN : N ≤ 3072) (hi : i ≤ 4000) : nI N - nI 6 < nI i ↔ N < i + 6 := by
  by_cases c : 6 ≤ N
  · rw [nI_subn c, nI_ltI (by omega) (by omega)]
    omega
  · have hz : nI N - nI 6 < 0 := by
      rcases (show N = 0 ∨ N = 1 ∨ N = 2 ∨ N = 3 ∨ N = 4 ∨ N = 5 by omega) with e | e | e | e | e | e <;> subst e <;> decide
    exact ⟨fun _ => by omega, fun _ => Int32.lt_of_lt_of_le hz (nI_pos' (by omega))⟩
theorem inv_up {B S : Nat} {h : hp_T} (I : Inv B S h) (hB : B + 2 ≤ 1000000) : Inv (B + 2) S h := by
  obtain ⟨σ, R, m, O, hs⟩ := I
  exact ⟨σ, R, m, ok_up O (by omega) hB, hs⟩
set_option maxRecDepth 10000 in
set_option maxHeartbeats 4000000 in
theorem lw_loop {w : wc_T} {κ : cx_T} {d : Nat} {Φ : Option Value → hp_T → Prop} (X : CX w κ (d + 31) 9 code 4 ret Φ) (hκ : k_1 κ = (135, 3491)) (hN : w.2.2.2.2.2.1 ≤ 3072) (hΦ : ∀ h1, Φ (some (.int (nI 1))) h1) : ∀ (n j : Nat) (h : hp_T), w.2.2.2.2.2.1 < 6 * j + 6 * n + 6 → 6 * j ≤ 3078 → Inv (2 * j) 2852 h → GG w κ 18 [some (.ref 0), some (.ref 23), some (.ref 80), some (.int (nI (6 * j)))] [] h := by
  intro n
  induction n with
  | zero =>
    intro j h hn h9 I
    refine r_iload_n (pc := 18) X dLaw_18 rfl ?_
    refine r_aload_n (pc := 19) X dLaw_19 rfl ?_
    refine r_slen (pc := 20) X dLaw_20 ?_
    refine r_bipush (pc := 21) (v := (nI 6)) X dLaw_21 (by decide) ?_
    refine r_isub (pc := 23) X dLaw_23 ?_
    refine r_icmp_gt (pc := 24) X dLaw_24 (tgt := 1333) (by decide) (fun c => ?_) (fun c => absurd ((lw_cmp hN (by omega)).mpr (by omega)) c)
    refine r_iconst (pc := 1333) (v := (nI 1)) X dLaw_1333 (by decide) ?_
    exact r_iret (pc := 1334) X dLaw_1334 rfl rfl (hΦ h)
  | succ n ih =>
    intro j h hn h9 I
    refine r_iload_n (pc := 18) X dLaw_18 rfl ?_
    refine r_aload_n (pc := 19) X dLaw_19 rfl ?_
    refine r_slen (pc := 20) X dLaw_20 ?_
    refine r_bipush (pc := 21) (v := (nI 6)) X dLaw_21 (by decide) ?_
    refine r_isub (pc := 23) X dLaw_23 ?_
    refine r_icmp_gt (pc := 24) X dLaw_24 (tgt := 1333) (by decide) (fun c => ?_) (fun c => ?_)
    · refine r_iconst (pc := 1333) (v := (nI 1)) X dLaw_1333 (by decide) ?_
      exact r_iret (pc := 1334) X dLaw_1334 rfl rfl (hΦ h)
    · have hj : 6 * j + 6 ≤ w.2.2.2.2.2.1 := Nat.not_lt.mp fun z => c ((lw_cmp hN (by omega)).mpr z)
      have next : ∀ h1, Inv (2 * j + 2) 2852 h1 → GG w κ 1327 [some (.ref 0), some (.ref 23), some (.ref 80), some (.int (nI (6 * j)))] [] h1 := by
        intro h1 I1
        have e6 : nI (6 * j) + Int32.ofInt 6 = nI (6 * (j + 1)) := by
          have e1 : Int32.ofInt 6 = nI 6 := by decide
          rw [e1, nI_add]
          rfl
        refine r_iinc (pc := 1327) X dLaw_1327 rfl e6 ?_
        refine r_goto (pc := 1330) X dLaw_1330 (tgt := 18) (by decide) ?_
        exact ih (j + 1) h1 (by omega) (by omega) I1
      have hB : 2 * j ≤ 9000 := by omega
      refine r_aload_n (pc := 27) X dLaw_27 rfl ?_
      refine r_iload_n (pc := 28) X dLaw_28 rfl ?_
      refine r_sld (pc := 29) (j := 6 * j) X dLaw_29 rfl (by omega) (by omega) ?_
      refine r_bipush (pc := 30) (v := (nI 63)) X dLaw_30 (by decide) ?_
      refine r_iand (pc := 32) X dLaw_32 ?_
      exact sw_Law_33 X (lw_person X hκ hj hN hB I next) (lw_of X hκ hj hN hB I next) (lw_set X hκ hj hN hB I next) (lw_row X hκ hj hN hB I next) (lw_with X hκ hj hN hB I next) (lw_weight X hκ hj hN hB I next) (lw_feed X hκ hj hN hB I next) (lw_evening X hκ hj hN hB I next) (lw_told X hκ hj hN hB I next) (lw_step X hκ hj hN hB I next) (lw_on X hκ hj hN hB I next) (lw_ends X hκ hj hN hB I next) (lw_longest X hκ hj hN hB I next) (lw_stand X hκ hj hN hB I next) (lw_needs X hκ hj hN hB I next) (lw_heavy X hκ hj hN hB I next) (lw_change X hκ hj hN hB I next) (lw_mute X hκ hj hN hB I next) (lw_see X hκ hj hN hB I next) (lw_from X hκ hj hN hB I next) (lw_had X hκ hj hN hB I next) (lw_odds X hκ hj hN hB I next) (lw_mean X hκ hj hN hB I next) (lw_game X hκ hj hN hB I next) (lw_gone X hκ hj hN hB I next) (lw_book X hκ hj hN hB I next) (lw_looked X hκ hj hN hB I next) (lw_judge X hκ hj hN hB I next) (lw_image X hκ hj hN hB I next) (lw_undo X hκ hj hN hB I next) (lw_act X hκ hj hN hB I next) (lw_trace X hκ hj hN hB I next) (lw_taken X hκ hj hN hB I next) (lw_count X hκ hj hN hB I next) (lw_tape X hκ hj hN hB I next) (lw_item X hκ hj hN hB I next) (lw_read X hκ hj hN hB I next) (lw_shift X hκ hj hN hB I next) (next h (inv_up I (by omega)))
set_option maxRecDepth 10000 in
set_option maxHeartbeats 8000000 in
theorem lw_begin {w : wc_T} {κ : cx_T} {d : Nat} {Φ : Option Value → hp_T → Prop} (X : CX w κ (d + 31) 9 code 4 ret Φ) (hκ : k_1 κ = (135, 3491)) (hN : w.2.2.2.2.2.1 ≤ 3072) (hΦ : ∀ h1, Φ (some (.int (nI 1))) h1) : GG w κ 0 [some (.ref 0), none, none, none] [] h00 := by
  have hk : k_1 κ = (h_n h00 + 112, h_s h00 + 3491) := hκ
  have ho : 0 < h_n h00 := Nat.le_of_ble_eq_true rfl
  have h20 : 23 ≤ h_n h00 := Nat.le_of_ble_eq_true rfl
  have B0 : Bs h00 0 0 [] (fun _ => 0) (fun _ => none) h00 := Bs.start rfl rfl
  refine g_new (pc := 0) (m := 0) X hk B0 ho dLaw_0 tn_9_7 rfl (by decide) (by decide) (fun h1 B1 => ?_)
  refine r_dup (pc := 3) X dLaw_3 rfl ?_
  refine g_c20 (pc := 4) (m := 0) (c1 := 56) (z1 := 934) (K1 := kLp (h_n h00 + 0 + 1)) (f1 := (fun _ => 0)) (R1 := rLp (h_n h00 + 0 + 1)) X hk B1 ho h20 rfl dLaw_4 tc_9_9 mm_X7_init rfl rfl (by decide) (Nat.le_of_ble_eq_true rfl) (fun h1 a1 a2 a3 a4 => by have q := c_class (d + 25) a1 a2 a3; rw [a4] at q; exact q) (fun h2 B2 => ?_)
  refine r_astore_n (pc := 7) X dLaw_7 (Nat.le_of_ble_eq_true rfl) ?_
  refine g_new (pc := 8) (m := 57) X hk B2 ho dLaw_8 tn_9_10 rfl (by decide) (by decide) (fun h3 B3 => ?_)
  refine r_dup (pc := 11) X dLaw_11 rfl ?_
  refine g_c20 (pc := 12) (m := 57) (c1 := 42) (z1 := 1835) (K1 := kMo) (f1 := fMo) (R1 := rMo (h_n h00 + 57 + 1)) X hk B3 ho h20 rfl dLaw_12 tc_9_12 mm_X8_init rfl rfl (by decide) (Nat.le_of_ble_eq_true rfl) (fun h1 a1 a2 a3 a4 => by have q := c_model (d + 28) a1 a2 a3; rw [a4] at q; exact q) (fun h4 B4 => ?_)
  refine r_astore_n (pc := 15) X dLaw_15 (Nat.le_of_ble_eq_true rfl) ?_
  refine r_iconst (pc := 16) (v := (nI 0)) X dLaw_16 (by decide) ?_
  refine r_istore_n (pc := 17) X dLaw_17 (Nat.le_of_ble_eq_true rfl) ?_
  have B5 : Bs h00 0 2852 KK (fun _ => 0) (fun _ => none) h4 := B4
  exact lw_loop X hκ hN hΦ 512 0 h4 (by omega) (by omega) (z_I B5)
