/-! a row for each switch; small facts of numbers -/
theorem nI_i1 (k : Nat) : nI k + Int32.ofInt 1 = nI (k + 1) := nI_1 k
theorem ne_toInt {x : Int32} {c : Int} {n : Nat} (h : ¬ x = nI n) (hc : (nI n).toInt = c) : ¬ x.toInt = c := fun e => h (Int32.toInt_inj.mp (e.trans hc.symm))
section RT
variable {w : wc_T} {κ : cx_T} {d own nL : Nat} {cc : ByteArray} {rt : Option FieldType} {Φ : Option Value → hp_T → Prop} {pc : Nat} {L : List (Option Value)} {st : List Value} {h : hp_T}
theorem r_top {x y : Int32} (e : x = y) (kk : GG w κ pc L (.int y :: st) h) : GG w κ pc L (.int x :: st) h := by
  subst e
  exact kk
theorem r_icmp_eqN (X : CX w κ d own cc nL rt Φ) {a b : Nat} {off : Int} {tgt : Nat} (dc : decode cc pc = .ok (.if_icmp .eq off, 3)) (ht : (pc : Int) + off = (tgt : Int)) (ha : a < 2 ^ 31) (hb : b < 2 ^ 31) (kt : a = b → GG w κ tgt L st h) (kf : ¬ a = b → GG w κ (pc + 3) L st h) : GG w κ pc L (.int (nI b) :: .int (nI a) :: st) h :=
  r_icmp_eq X dc ht (fun c => kt ((nI_eq ha hb).mp c)) (fun c => kf (fun e => c (by rw [e])))
theorem r_icmp_geN (X : CX w κ d own cc nL rt Φ) {a b : Nat} {off : Int} {tgt : Nat} (dc : decode cc pc = .ok (.if_icmp .ge off, 3)) (ht : (pc : Int) + off = (tgt : Int)) (ha : a < 2 ^ 31) (hb : b < 2 ^ 31) (kt : b ≤ a → GG w κ tgt L st h) (kf : ¬ b ≤ a → GG w κ (pc + 3) L st h) : GG w κ pc L (.int (nI b) :: .int (nI a) :: st) h :=
  r_icmp_ge X dc ht (fun c => kt ((nI_leI hb ha).mp c)) (fun c => kf (fun e => c ((nI_leI hb ha).mpr e)))
theorem r_icmp_ltN (X : CX w κ d own cc nL rt Φ) {a b : Nat} {off : Int} {tgt : Nat} (dc : decode cc pc = .ok (.if_icmp .lt off, 3)) (ht : (pc : Int) + off = (tgt : Int)) (ha : a < 2 ^ 31) (hb : b < 2 ^ 31) (kt : a < b → GG w κ tgt L st h) (kf : ¬ a < b → GG w κ (pc + 3) L st h) : GG w κ pc L (.int (nI b) :: .int (nI a) :: st) h :=
  r_icmp_lt X dc ht (fun c => kt ((nI_ltI ha hb).mp c)) (fun c => kf (fun e => c ((nI_ltI ha hb).mpr e)))
theorem r_icmp_gtN (X : CX w κ d own cc nL rt Φ) {a b : Nat} {off : Int} {tgt : Nat} (dc : decode cc pc = .ok (.if_icmp .gt off, 3)) (ht : (pc : Int) + off = (tgt : Int)) (ha : a < 2 ^ 31) (hb : b < 2 ^ 31) (kt : b < a → GG w κ tgt L st h) (kf : ¬ b < a → GG w κ (pc + 3) L st h) : GG w κ pc L (.int (nI b) :: .int (nI a) :: st) h :=
  r_icmp_gt X dc ht (fun c => kt ((nI_ltI hb ha).mp c)) (fun c => kf (fun e => c ((nI_ltI hb ha).mpr e)))
theorem r_icmp_leN (X : CX w κ d own cc nL rt Φ) {a b : Nat} {off : Int} {tgt : Nat} (dc : decode cc pc = .ok (.if_icmp .le off, 3)) (ht : (pc : Int) + off = (tgt : Int)) (ha : a < 2 ^ 31) (hb : b < 2 ^ 31) (kt : a ≤ b → GG w κ tgt L st h) (kf : ¬ a ≤ b → GG w κ (pc + 3) L st h) : GG w κ pc L (.int (nI b) :: .int (nI a) :: st) h :=
  r_icmp_le X dc ht (fun c => kt ((nI_leI ha hb).mp c)) (fun c => kf (fun e => c ((nI_leI ha hb).mpr e)))
theorem r_icmp_neN (X : CX w κ d own cc nL rt Φ) {a b : Nat} {off : Int} {tgt : Nat} (dc : decode cc pc = .ok (.if_icmp .ne off, 3)) (ht : (pc : Int) + off = (tgt : Int)) (ha : a < 2 ^ 31) (hb : b < 2 ^ 31) (kt : ¬ a = b → GG w κ tgt L st h) (kf : a = b → GG w κ (pc + 3) L st h) : GG w κ pc L (.int (nI b) :: .int (nI a) :: st) h :=
  r_icmp_ne X dc ht (fun c => kt (fun e => c (by rw [e]))) (fun c => kf ((nI_eq ha hb).mp c))
set_option maxRecDepth 4000 in
theorem sw_X0_within_1 (X : CX w κ d own cX0_within nL rt Φ) {x : Int32} (k10 : x = nI 10 → GG w κ 92 L st h) (k11 : x = nI 11 → GG w κ 99 L st h) (k12 : x = nI 12 → GG w κ 116 L st h) (k20 : x = nI 20 → GG w κ 130 L st h) (k30 : x = nI 30 → GG w κ 142 L st h) (k40 : x = nI 40 → GG w κ 153 L st h) (k50 : x = nI 50 → GG w κ 174 L st h) (k51 : x = nI 51 → GG w κ 184 L st h) (k60 : x = nI 60 → GG w κ 195 L st h) (k70 : x = nI 70 → GG w κ 209 L st h) (kd : ¬ x = nI 10 ∧ ¬ x = nI 11 ∧ ¬ x = nI 12 ∧ ¬ x = nI 20 ∧ ¬ x = nI 30 ∧ ¬ x = nI 40 ∧ ¬ x = nI 50 ∧ ¬ x = nI 51 ∧ ¬ x = nI 60 ∧ ¬ x = nI 70 → GG w κ 227 L st h) : GG w κ 1 L (.int x :: st) h := by
  by_cases h10 : x = nI 10
  · exact r_lookup (tgt := 92) (off := 91) X dX0_within_1 (by decide) (by rw [h10]; decide) (by decide) (k10 h10)
  by_cases h11 : x = nI 11
  · exact r_lookup (tgt := 99) (off := 98) X dX0_within_1 (by decide) (by rw [h11]; decide) (by decide) (k11 h11)
  by_cases h12 : x = nI 12
  · exact r_lookup (tgt := 116) (off := 115) X dX0_within_1 (by decide) (by rw [h12]; decide) (by decide) (k12 h12)
  by_cases h20 : x = nI 20
  · exact r_lookup (tgt := 130) (off := 129) X dX0_within_1 (by decide) (by rw [h20]; decide) (by decide) (k20 h20)
  by_cases h30 : x = nI 30
  · exact r_lookup (tgt := 142) (off := 141) X dX0_within_1 (by decide) (by rw [h30]; decide) (by decide) (k30 h30)
  by_cases h40 : x = nI 40
  · exact r_lookup (tgt := 153) (off := 152) X dX0_within_1 (by decide) (by rw [h40]; decide) (by decide) (k40 h40)
  by_cases h50 : x = nI 50
  · exact r_lookup (tgt := 174) (off := 173) X dX0_within_1 (by decide) (by rw [h50]; decide) (by decide) (k50 h50)
  by_cases h51 : x = nI 51
  · exact r_lookup (tgt := 184) (off := 183) X dX0_within_1 (by decide) (by rw [h51]; decide) (by decide) (k51 h51)
  by_cases h60 : x = nI 60
  · exact r_lookup (tgt := 195) (off := 194) X dX0_within_1 (by decide) (by rw [h60]; decide) (by decide) (k60 h60)
  by_cases h70 : x = nI 70
  · exact r_lookup (tgt := 209) (off := 208) X dX0_within_1 (by decide) (by rw [h70]; decide) (by decide) (k70 h70)
  have kd := kd ⟨h10, h11, h12, h20, h30, h40, h50, h51, h60, h70⟩
  have g10 : ¬ x.toInt = 10 := ne_toInt h10 (by decide)
  have g11 : ¬ x.toInt = 11 := ne_toInt h11 (by decide)
  have g12 : ¬ x.toInt = 12 := ne_toInt h12 (by decide)
  have g20 : ¬ x.toInt = 20 := ne_toInt h20 (by decide)
  have g30 : ¬ x.toInt = 30 := ne_toInt h30 (by decide)
  have g40 : ¬ x.toInt = 40 := ne_toInt h40 (by decide)
  have g50 : ¬ x.toInt = 50 := ne_toInt h50 (by decide)
  have g51 : ¬ x.toInt = 51 := ne_toInt h51 (by decide)
  have g60 : ¬ x.toInt = 60 := ne_toInt h60 (by decide)
  have g70 : ¬ x.toInt = 70 := ne_toInt h70 (by decide)
  exact r_lookup (tgt := 227) (off := 226) X dX0_within_1 (by decide) (by simp [Op.lookupswitch.offset, Ne.symm g10, Ne.symm g11, Ne.symm g12, Ne.symm g20, Ne.symm g30, Ne.symm g40, Ne.symm g50, Ne.symm g51, Ne.symm g60, Ne.symm g70]) (by decide) kd
set_option maxRecDepth 4000 in
theorem sw_X1_rain_62 (X : CX w κ d own cX1_rain nL rt Φ) {x : Int32} (k0 : x = nI 0 → GG w κ 104 L st h) (k1 : x = nI 1 → GG w κ 126 L st h) (k2 : x = nI 2 → GG w κ 148 L st h) (k3 : x = nI 3 → GG w κ 170 L st h) (k4 : x = nI 4 → GG w κ 185 L st h) (k5 : x = nI 5 → GG w κ 199 L st h) (k6 : x = nI 6 → GG w κ 208 L st h) (kd : ¬ x = nI 0 ∧ ¬ x = nI 1 ∧ ¬ x = nI 2 ∧ ¬ x = nI 3 ∧ ¬ x = nI 4 ∧ ¬ x = nI 5 ∧ ¬ x = nI 6 → GG w κ 222 L st h) : GG w κ 62 L (.int x :: st) h := by
  by_cases h0 : x = nI 0
  · exact r_tableIn (tgt := 104) X dX1_rain_62 (by rw [h0]; decide) (by rw [h0]; decide) (by rw [h0]; rfl) (by decide) (k0 h0)
  by_cases h1 : x = nI 1
  · exact r_tableIn (tgt := 126) X dX1_rain_62 (by rw [h1]; decide) (by rw [h1]; decide) (by rw [h1]; rfl) (by decide) (k1 h1)
  by_cases h2 : x = nI 2
  · exact r_tableIn (tgt := 148) X dX1_rain_62 (by rw [h2]; decide) (by rw [h2]; decide) (by rw [h2]; rfl) (by decide) (k2 h2)
  by_cases h3 : x = nI 3
  · exact r_tableIn (tgt := 170) X dX1_rain_62 (by rw [h3]; decide) (by rw [h3]; decide) (by rw [h3]; rfl) (by decide) (k3 h3)
  by_cases h4 : x = nI 4
  · exact r_tableIn (tgt := 185) X dX1_rain_62 (by rw [h4]; decide) (by rw [h4]; decide) (by rw [h4]; rfl) (by decide) (k4 h4)
  by_cases h5 : x = nI 5
  · exact r_tableIn (tgt := 199) X dX1_rain_62 (by rw [h5]; decide) (by rw [h5]; decide) (by rw [h5]; rfl) (by decide) (k5 h5)
  by_cases h6 : x = nI 6
  · exact r_tableIn (tgt := 208) X dX1_rain_62 (by rw [h6]; decide) (by rw [h6]; decide) (by rw [h6]; rfl) (by decide) (k6 h6)
  have kd := kd ⟨h0, h1, h2, h3, h4, h5, h6⟩
  have g0 : ¬ x.toInt = 0 := ne_toInt h0 (by decide)
  have g1 : ¬ x.toInt = 1 := ne_toInt h1 (by decide)
  have g2 : ¬ x.toInt = 2 := ne_toInt h2 (by decide)
  have g3 : ¬ x.toInt = 3 := ne_toInt h3 (by decide)
  have g4 : ¬ x.toInt = 4 := ne_toInt h4 (by decide)
  have g5 : ¬ x.toInt = 5 := ne_toInt h5 (by decide)
  have g6 : ¬ x.toInt = 6 := ne_toInt h6 (by decide)
  by_cases hr : x.toInt < 0 ∨ 6 < x.toInt
  · exact r_tableOut (tgt := 222) X dX1_rain_62 hr (by decide) kd
  exfalso
  omega
set_option maxRecDepth 4000 in
theorem sw_X5_bucket_1 (X : CX w κ d own cX5_bucket nL rt Φ) {x : Int32} (k0 : x = nI 0 → GG w κ 28 L st h) (k1 : x = nI 1 → GG w κ 33 L st h) (kd : ¬ x = nI 0 ∧ ¬ x = nI 1 → GG w κ 38 L st h) : GG w κ 1 L (.int x :: st) h := by
  by_cases h0 : x = nI 0
  · exact r_lookup (tgt := 28) (off := 27) X dX5_bucket_1 (by decide) (by rw [h0]; decide) (by decide) (k0 h0)
  by_cases h1 : x = nI 1
  · exact r_lookup (tgt := 33) (off := 32) X dX5_bucket_1 (by decide) (by rw [h1]; decide) (by decide) (k1 h1)
  have kd := kd ⟨h0, h1⟩
  have g0 : ¬ x.toInt = 0 := ne_toInt h0 (by decide)
  have g1 : ¬ x.toInt = 1 := ne_toInt h1 (by decide)
  exact r_lookup (tgt := 38) (off := 37) X dX5_bucket_1 (by decide) (by simp [Op.lookupswitch.offset, Ne.symm g0, Ne.symm g1]) (by decide) kd
set_option maxRecDepth 4000 in
theorem sw_X5_fact_1 (X : CX w κ d own cX5_fact nL rt Φ) {x : Int32} (k0 : x = nI 0 → GG w κ 36 L st h) (k1 : x = nI 1 → GG w κ 38 L st h) (k2 : x = nI 2 → GG w κ 45 L st h) (k3 : x = nI 3 → GG w κ 52 L st h) (k4 : x = nI 4 → GG w κ 59 L st h) (kd : ¬ x = nI 0 ∧ ¬ x = nI 1 ∧ ¬ x = nI 2 ∧ ¬ x = nI 3 ∧ ¬ x = nI 4 → GG w κ 67 L st h) : GG w κ 1 L (.int x :: st) h := by
  by_cases h0 : x = nI 0
  · exact r_tableIn (tgt := 36) X dX5_fact_1 (by rw [h0]; decide) (by rw [h0]; decide) (by rw [h0]; rfl) (by decide) (k0 h0)
  by_cases h1 : x = nI 1
  · exact r_tableIn (tgt := 38) X dX5_fact_1 (by rw [h1]; decide) (by rw [h1]; decide) (by rw [h1]; rfl) (by decide) (k1 h1)
  by_cases h2 : x = nI 2
  · exact r_tableIn (tgt := 45) X dX5_fact_1 (by rw [h2]; decide) (by rw [h2]; decide) (by rw [h2]; rfl) (by decide) (k2 h2)
  by_cases h3 : x = nI 3
  · exact r_tableIn (tgt := 52) X dX5_fact_1 (by rw [h3]; decide) (by rw [h3]; decide) (by rw [h3]; rfl) (by decide) (k3 h3)
  by_cases h4 : x = nI 4
  · exact r_tableIn (tgt := 59) X dX5_fact_1 (by rw [h4]; decide) (by rw [h4]; decide) (by rw [h4]; rfl) (by decide) (k4 h4)
  have kd := kd ⟨h0, h1, h2, h3, h4⟩
  have g0 : ¬ x.toInt = 0 := ne_toInt h0 (by decide)
  have g1 : ¬ x.toInt = 1 := ne_toInt h1 (by decide)
  have g2 : ¬ x.toInt = 2 := ne_toInt h2 (by decide)
  have g3 : ¬ x.toInt = 3 := ne_toInt h3 (by decide)
  have g4 : ¬ x.toInt = 4 := ne_toInt h4 (by decide)
  by_cases hr : x.toInt < 0 ∨ 4 < x.toInt
  · exact r_tableOut (tgt := 67) X dX5_fact_1 hr (by decide) kd
  exfalso
  omega
set_option maxRecDepth 4000 in
theorem sw_X5_reach_38 (X : CX w κ d own cX5_reach nL rt Φ) {x : Int32} (k1 : x = nI 1 → GG w κ 76 L st h) (k2 : x = nI 2 → GG w κ 82 L st h) (k4 : x = nI 4 → GG w κ 78 L st h) (k5 : x = nI 5 → GG w κ 86 L st h) (k6 : x = nI 6 → GG w κ 102 L st h) (kd : ¬ x = nI 1 ∧ ¬ x = nI 2 ∧ ¬ x = nI 4 ∧ ¬ x = nI 5 ∧ ¬ x = nI 6 → GG w κ 120 L st h) : GG w κ 38 L (.int x :: st) h := by
  by_cases h1 : x = nI 1
  · exact r_tableIn (tgt := 76) X dX5_reach_38 (by rw [h1]; decide) (by rw [h1]; decide) (by rw [h1]; rfl) (by decide) (k1 h1)
  by_cases h2 : x = nI 2
  · exact r_tableIn (tgt := 82) X dX5_reach_38 (by rw [h2]; decide) (by rw [h2]; decide) (by rw [h2]; rfl) (by decide) (k2 h2)
  by_cases h4 : x = nI 4
  · exact r_tableIn (tgt := 78) X dX5_reach_38 (by rw [h4]; decide) (by rw [h4]; decide) (by rw [h4]; rfl) (by decide) (k4 h4)
  by_cases h5 : x = nI 5
  · exact r_tableIn (tgt := 86) X dX5_reach_38 (by rw [h5]; decide) (by rw [h5]; decide) (by rw [h5]; rfl) (by decide) (k5 h5)
  by_cases h6 : x = nI 6
  · exact r_tableIn (tgt := 102) X dX5_reach_38 (by rw [h6]; decide) (by rw [h6]; decide) (by rw [h6]; rfl) (by decide) (k6 h6)
  have kd := kd ⟨h1, h2, h4, h5, h6⟩
  have g1 : ¬ x.toInt = 1 := ne_toInt h1 (by decide)
  have g2 : ¬ x.toInt = 2 := ne_toInt h2 (by decide)
  have g4 : ¬ x.toInt = 4 := ne_toInt h4 (by decide)
  have g5 : ¬ x.toInt = 5 := ne_toInt h5 (by decide)
  have g6 : ¬ x.toInt = 6 := ne_toInt h6 (by decide)
  by_cases hr : x.toInt < 1 ∨ 6 < x.toInt
  · exact r_tableOut (tgt := 120) X dX5_reach_38 hr (by decide) kd
  by_cases e3 : x.toInt = 3
  · exact r_tableIn (tgt := 120) X dX5_reach_38 (by omega) (by omega) (by rw [e3]; rfl) (by decide) kd
  exfalso
  omega
set_option maxRecDepth 4000 in
theorem sw_X5_target_6 (X : CX w κ d own cX5_target nL rt Φ) {x : Int32} (k2 : x = nI 2 → GG w κ 40 L st h) (k3 : x = nI 3 → GG w κ 67 L st h) (k5 : x = nI 5 → GG w κ 40 L st h) (k6 : x = nI 6 → GG w κ 67 L st h) (kd : ¬ x = nI 2 ∧ ¬ x = nI 3 ∧ ¬ x = nI 5 ∧ ¬ x = nI 6 → GG w κ 73 L st h) : GG w κ 6 L (.int x :: st) h := by
  by_cases h2 : x = nI 2
  · exact r_tableIn (tgt := 40) X dX5_target_6 (by rw [h2]; decide) (by rw [h2]; decide) (by rw [h2]; rfl) (by decide) (k2 h2)
  by_cases h3 : x = nI 3
  · exact r_tableIn (tgt := 67) X dX5_target_6 (by rw [h3]; decide) (by rw [h3]; decide) (by rw [h3]; rfl) (by decide) (k3 h3)
  by_cases h5 : x = nI 5
  · exact r_tableIn (tgt := 40) X dX5_target_6 (by rw [h5]; decide) (by rw [h5]; decide) (by rw [h5]; rfl) (by decide) (k5 h5)
  by_cases h6 : x = nI 6
  · exact r_tableIn (tgt := 67) X dX5_target_6 (by rw [h6]; decide) (by rw [h6]; decide) (by rw [h6]; rfl) (by decide) (k6 h6)
  have kd := kd ⟨h2, h3, h5, h6⟩
  have g2 : ¬ x.toInt = 2 := ne_toInt h2 (by decide)
  have g3 : ¬ x.toInt = 3 := ne_toInt h3 (by decide)
  have g5 : ¬ x.toInt = 5 := ne_toInt h5 (by decide)
  have g6 : ¬ x.toInt = 6 := ne_toInt h6 (by decide)
  by_cases hr : x.toInt < 2 ∨ 6 < x.toInt
  · exact r_tableOut (tgt := 73) X dX5_target_6 hr (by decide) kd
  by_cases e4 : x.toInt = 4
  · exact r_tableIn (tgt := 73) X dX5_target_6 (by omega) (by omega) (by rw [e4]; rfl) (by decide) kd
  exfalso
  omega
set_option maxRecDepth 4000 in
theorem sw_X5_play_1 (X : CX w κ d own cX5_play nL rt Φ) {x : Int32} (k0 : x = nI 0 → GG w κ 28 L st h) (k1 : x = nI 1 → GG w κ 36 L st h) (kd : ¬ x = nI 0 ∧ ¬ x = nI 1 → GG w κ 56 L st h) : GG w κ 1 L (.int x :: st) h := by
  by_cases h0 : x = nI 0
  · exact r_lookup (tgt := 28) (off := 27) X dX5_play_1 (by decide) (by rw [h0]; decide) (by decide) (k0 h0)
  by_cases h1 : x = nI 1
  · exact r_lookup (tgt := 36) (off := 35) X dX5_play_1 (by decide) (by rw [h1]; decide) (by decide) (k1 h1)
  have kd := kd ⟨h0, h1⟩
  have g0 : ¬ x.toInt = 0 := ne_toInt h0 (by decide)
  have g1 : ¬ x.toInt = 1 := ne_toInt h1 (by decide)
  exact r_lookup (tgt := 56) (off := 55) X dX5_play_1 (by decide) (by simp [Op.lookupswitch.offset, Ne.symm g0, Ne.symm g1]) (by decide) kd
set_option maxRecDepth 4000 in
theorem sw_X6_cut_1 (X : CX w κ d own cX6_cut nL rt Φ) {x : Int32} (k0 : x = nI 0 → GG w κ 32 L st h) (k1 : x = nI 1 → GG w κ 37 L st h) (k2 : x = nI 2 → GG w κ 42 L st h) (k3 : x = nI 3 → GG w κ 46 L st h) (kd : ¬ x = nI 0 ∧ ¬ x = nI 1 ∧ ¬ x = nI 2 ∧ ¬ x = nI 3 → GG w κ 48 L st h) : GG w κ 1 L (.int x :: st) h := by
  by_cases h0 : x = nI 0
  · exact r_tableIn (tgt := 32) X dX6_cut_1 (by rw [h0]; decide) (by rw [h0]; decide) (by rw [h0]; rfl) (by decide) (k0 h0)
  by_cases h1 : x = nI 1
  · exact r_tableIn (tgt := 37) X dX6_cut_1 (by rw [h1]; decide) (by rw [h1]; decide) (by rw [h1]; rfl) (by decide) (k1 h1)
  by_cases h2 : x = nI 2
  · exact r_tableIn (tgt := 42) X dX6_cut_1 (by rw [h2]; decide) (by rw [h2]; decide) (by rw [h2]; rfl) (by decide) (k2 h2)
  by_cases h3 : x = nI 3
  · exact r_tableIn (tgt := 46) X dX6_cut_1 (by rw [h3]; decide) (by rw [h3]; decide) (by rw [h3]; rfl) (by decide) (k3 h3)
  have kd := kd ⟨h0, h1, h2, h3⟩
  have g0 : ¬ x.toInt = 0 := ne_toInt h0 (by decide)
  have g1 : ¬ x.toInt = 1 := ne_toInt h1 (by decide)
  have g2 : ¬ x.toInt = 2 := ne_toInt h2 (by decide)
  have g3 : ¬ x.toInt = 3 := ne_toInt h3 (by decide)
  by_cases hr : x.toInt < 0 ∨ 3 < x.toInt
  · exact r_tableOut (tgt := 48) X dX6_cut_1 hr (by decide) kd
  exfalso
  omega
set_option maxRecDepth 4000 in
theorem sw_X7_of_16 (X : CX w κ d own cX7_of nL rt Φ) {x : Int32} (k0 : x = nI 0 → GG w κ 64 L st h) (k1 : x = nI 1 → GG w κ 74 L st h) (k2 : x = nI 2 → GG w κ 84 L st h) (k3 : x = nI 3 → GG w κ 94 L st h) (k4 : x = nI 4 → GG w κ 104 L st h) (k5 : x = nI 5 → GG w κ 114 L st h) (k6 : x = nI 6 → GG w κ 123 L st h) (k7 : x = nI 7 → GG w κ 132 L st h) (kd : ¬ x = nI 0 ∧ ¬ x = nI 1 ∧ ¬ x = nI 2 ∧ ¬ x = nI 3 ∧ ¬ x = nI 4 ∧ ¬ x = nI 5 ∧ ¬ x = nI 6 ∧ ¬ x = nI 7 → GG w κ 141 L st h) : GG w κ 16 L (.int x :: st) h := by
  by_cases h0 : x = nI 0
  · exact r_tableIn (tgt := 64) X dX7_of_16 (by rw [h0]; decide) (by rw [h0]; decide) (by rw [h0]; rfl) (by decide) (k0 h0)
  by_cases h1 : x = nI 1
  · exact r_tableIn (tgt := 74) X dX7_of_16 (by rw [h1]; decide) (by rw [h1]; decide) (by rw [h1]; rfl) (by decide) (k1 h1)
  by_cases h2 : x = nI 2
  · exact r_tableIn (tgt := 84) X dX7_of_16 (by rw [h2]; decide) (by rw [h2]; decide) (by rw [h2]; rfl) (by decide) (k2 h2)
  by_cases h3 : x = nI 3
  · exact r_tableIn (tgt := 94) X dX7_of_16 (by rw [h3]; decide) (by rw [h3]; decide) (by rw [h3]; rfl) (by decide) (k3 h3)
  by_cases h4 : x = nI 4
  · exact r_tableIn (tgt := 104) X dX7_of_16 (by rw [h4]; decide) (by rw [h4]; decide) (by rw [h4]; rfl) (by decide) (k4 h4)
  by_cases h5 : x = nI 5
  · exact r_tableIn (tgt := 114) X dX7_of_16 (by rw [h5]; decide) (by rw [h5]; decide) (by rw [h5]; rfl) (by decide) (k5 h5)
  by_cases h6 : x = nI 6
  · exact r_tableIn (tgt := 123) X dX7_of_16 (by rw [h6]; decide) (by rw [h6]; decide) (by rw [h6]; rfl) (by decide) (k6 h6)
  by_cases h7 : x = nI 7
  · exact r_tableIn (tgt := 132) X dX7_of_16 (by rw [h7]; decide) (by rw [h7]; decide) (by rw [h7]; rfl) (by decide) (k7 h7)
  have kd := kd ⟨h0, h1, h2, h3, h4, h5, h6, h7⟩
  have g0 : ¬ x.toInt = 0 := ne_toInt h0 (by decide)
  have g1 : ¬ x.toInt = 1 := ne_toInt h1 (by decide)
  have g2 : ¬ x.toInt = 2 := ne_toInt h2 (by decide)
  have g3 : ¬ x.toInt = 3 := ne_toInt h3 (by decide)
  have g4 : ¬ x.toInt = 4 := ne_toInt h4 (by decide)
  have g5 : ¬ x.toInt = 5 := ne_toInt h5 (by decide)
  have g6 : ¬ x.toInt = 6 := ne_toInt h6 (by decide)
  have g7 : ¬ x.toInt = 7 := ne_toInt h7 (by decide)
  by_cases hr : x.toInt < 0 ∨ 7 < x.toInt
  · exact r_tableOut (tgt := 141) X dX7_of_16 hr (by decide) kd
  exfalso
  omega
set_option maxRecDepth 4000 in
theorem sw_X7_told_1 (X : CX w κ d own cX7_told nL rt Φ) {x : Int32} (k0 : x = nI 0 → GG w κ 40 L st h) (k1 : x = nI 1 → GG w κ 48 L st h) (k2 : x = nI 2 → GG w κ 56 L st h) (k3 : x = nI 3 → GG w κ 64 L st h) (k4 : x = nI 4 → GG w κ 72 L st h) (k5 : x = nI 5 → GG w κ 80 L st h) (kd : ¬ x = nI 0 ∧ ¬ x = nI 1 ∧ ¬ x = nI 2 ∧ ¬ x = nI 3 ∧ ¬ x = nI 4 ∧ ¬ x = nI 5 → GG w κ 88 L st h) : GG w κ 1 L (.int x :: st) h := by
  by_cases h0 : x = nI 0
  · exact r_tableIn (tgt := 40) X dX7_told_1 (by rw [h0]; decide) (by rw [h0]; decide) (by rw [h0]; rfl) (by decide) (k0 h0)
  by_cases h1 : x = nI 1
  · exact r_tableIn (tgt := 48) X dX7_told_1 (by rw [h1]; decide) (by rw [h1]; decide) (by rw [h1]; rfl) (by decide) (k1 h1)
  by_cases h2 : x = nI 2
  · exact r_tableIn (tgt := 56) X dX7_told_1 (by rw [h2]; decide) (by rw [h2]; decide) (by rw [h2]; rfl) (by decide) (k2 h2)
  by_cases h3 : x = nI 3
  · exact r_tableIn (tgt := 64) X dX7_told_1 (by rw [h3]; decide) (by rw [h3]; decide) (by rw [h3]; rfl) (by decide) (k3 h3)
  by_cases h4 : x = nI 4
  · exact r_tableIn (tgt := 72) X dX7_told_1 (by rw [h4]; decide) (by rw [h4]; decide) (by rw [h4]; rfl) (by decide) (k4 h4)
  by_cases h5 : x = nI 5
  · exact r_tableIn (tgt := 80) X dX7_told_1 (by rw [h5]; decide) (by rw [h5]; decide) (by rw [h5]; rfl) (by decide) (k5 h5)
  have kd := kd ⟨h0, h1, h2, h3, h4, h5⟩
  have g0 : ¬ x.toInt = 0 := ne_toInt h0 (by decide)
  have g1 : ¬ x.toInt = 1 := ne_toInt h1 (by decide)
  have g2 : ¬ x.toInt = 2 := ne_toInt h2 (by decide)
  have g3 : ¬ x.toInt = 3 := ne_toInt h3 (by decide)
  have g4 : ¬ x.toInt = 4 := ne_toInt h4 (by decide)
  have g5 : ¬ x.toInt = 5 := ne_toInt h5 (by decide)
  by_cases hr : x.toInt < 0 ∨ 5 < x.toInt
  · exact r_tableOut (tgt := 88) X dX7_told_1 hr (by decide) kd
  exfalso
  omega
set_option maxRecDepth 4000 in
theorem sw_X7_count_1 (X : CX w κ d own cX7_count nL rt Φ) {x : Int32} (k0 : x = nI 0 → GG w κ 44 L st h) (k1 : x = nI 1 → GG w κ 52 L st h) (k2 : x = nI 2 → GG w κ 57 L st h) (k3 : x = nI 3 → GG w κ 68 L st h) (k4 : x = nI 4 → GG w κ 79 L st h) (k5 : x = nI 5 → GG w κ 90 L st h) (k6 : x = nI 6 → GG w κ 98 L st h) (kd : ¬ x = nI 0 ∧ ¬ x = nI 1 ∧ ¬ x = nI 2 ∧ ¬ x = nI 3 ∧ ¬ x = nI 4 ∧ ¬ x = nI 5 ∧ ¬ x = nI 6 → GG w κ 106 L st h) : GG w κ 1 L (.int x :: st) h := by
  by_cases h0 : x = nI 0
  · exact r_tableIn (tgt := 44) X dX7_count_1 (by rw [h0]; decide) (by rw [h0]; decide) (by rw [h0]; rfl) (by decide) (k0 h0)
  by_cases h1 : x = nI 1
  · exact r_tableIn (tgt := 52) X dX7_count_1 (by rw [h1]; decide) (by rw [h1]; decide) (by rw [h1]; rfl) (by decide) (k1 h1)
  by_cases h2 : x = nI 2
  · exact r_tableIn (tgt := 57) X dX7_count_1 (by rw [h2]; decide) (by rw [h2]; decide) (by rw [h2]; rfl) (by decide) (k2 h2)
  by_cases h3 : x = nI 3
  · exact r_tableIn (tgt := 68) X dX7_count_1 (by rw [h3]; decide) (by rw [h3]; decide) (by rw [h3]; rfl) (by decide) (k3 h3)
  by_cases h4 : x = nI 4
  · exact r_tableIn (tgt := 79) X dX7_count_1 (by rw [h4]; decide) (by rw [h4]; decide) (by rw [h4]; rfl) (by decide) (k4 h4)
  by_cases h5 : x = nI 5
  · exact r_tableIn (tgt := 90) X dX7_count_1 (by rw [h5]; decide) (by rw [h5]; decide) (by rw [h5]; rfl) (by decide) (k5 h5)
  by_cases h6 : x = nI 6
  · exact r_tableIn (tgt := 98) X dX7_count_1 (by rw [h6]; decide) (by rw [h6]; decide) (by rw [h6]; rfl) (by decide) (k6 h6)
  have kd := kd ⟨h0, h1, h2, h3, h4, h5, h6⟩
  have g0 : ¬ x.toInt = 0 := ne_toInt h0 (by decide)
  have g1 : ¬ x.toInt = 1 := ne_toInt h1 (by decide)
  have g2 : ¬ x.toInt = 2 := ne_toInt h2 (by decide)
  have g3 : ¬ x.toInt = 3 := ne_toInt h3 (by decide)
  have g4 : ¬ x.toInt = 4 := ne_toInt h4 (by decide)
  have g5 : ¬ x.toInt = 5 := ne_toInt h5 (by decide)
  have g6 : ¬ x.toInt = 6 := ne_toInt h6 (by decide)
  by_cases hr : x.toInt < 0 ∨ 6 < x.toInt
  · exact r_tableOut (tgt := 106) X dX7_count_1 hr (by decide) kd
  exfalso
  omega
set_option maxRecDepth 4000 in
theorem sw_X8_place_1 (X : CX w κ d own cX8_place nL rt Φ) {x : Int32} (k100 : x = nI 100 → GG w κ 100 L st h) (k104 : x = nI 104 → GG w κ 102 L st h) (k107 : x = nI 107 → GG w κ 98 L st h) (k112 : x = nI 112 → GG w κ 96 L st h) (k115 : x = nI 115 → GG w κ 106 L st h) (k119 : x = nI 119 → GG w κ 104 L st h) (kd : ¬ x = nI 100 ∧ ¬ x = nI 104 ∧ ¬ x = nI 107 ∧ ¬ x = nI 112 ∧ ¬ x = nI 115 ∧ ¬ x = nI 119 → GG w κ 108 L st h) : GG w κ 1 L (.int x :: st) h := by
  by_cases h100 : x = nI 100
  · exact r_tableIn (tgt := 100) X dX8_place_1 (by rw [h100]; decide) (by rw [h100]; decide) (by rw [h100]; rfl) (by decide) (k100 h100)
  by_cases h104 : x = nI 104
  · exact r_tableIn (tgt := 102) X dX8_place_1 (by rw [h104]; decide) (by rw [h104]; decide) (by rw [h104]; rfl) (by decide) (k104 h104)
  by_cases h107 : x = nI 107
  · exact r_tableIn (tgt := 98) X dX8_place_1 (by rw [h107]; decide) (by rw [h107]; decide) (by rw [h107]; rfl) (by decide) (k107 h107)
  by_cases h112 : x = nI 112
  · exact r_tableIn (tgt := 96) X dX8_place_1 (by rw [h112]; decide) (by rw [h112]; decide) (by rw [h112]; rfl) (by decide) (k112 h112)
  by_cases h115 : x = nI 115
  · exact r_tableIn (tgt := 106) X dX8_place_1 (by rw [h115]; decide) (by rw [h115]; decide) (by rw [h115]; rfl) (by decide) (k115 h115)
  by_cases h119 : x = nI 119
  · exact r_tableIn (tgt := 104) X dX8_place_1 (by rw [h119]; decide) (by rw [h119]; decide) (by rw [h119]; rfl) (by decide) (k119 h119)
  have kd := kd ⟨h100, h104, h107, h112, h115, h119⟩
  have g100 : ¬ x.toInt = 100 := ne_toInt h100 (by decide)
  have g104 : ¬ x.toInt = 104 := ne_toInt h104 (by decide)
  have g107 : ¬ x.toInt = 107 := ne_toInt h107 (by decide)
  have g112 : ¬ x.toInt = 112 := ne_toInt h112 (by decide)
  have g115 : ¬ x.toInt = 115 := ne_toInt h115 (by decide)
  have g119 : ¬ x.toInt = 119 := ne_toInt h119 (by decide)
  by_cases hr : x.toInt < 100 ∨ 119 < x.toInt
  · exact r_tableOut (tgt := 108) X dX8_place_1 hr (by decide) kd
  by_cases e101 : x.toInt = 101
  · exact r_tableIn (tgt := 108) X dX8_place_1 (by omega) (by omega) (by rw [e101]; rfl) (by decide) kd
  by_cases e102 : x.toInt = 102
  · exact r_tableIn (tgt := 108) X dX8_place_1 (by omega) (by omega) (by rw [e102]; rfl) (by decide) kd
  by_cases e103 : x.toInt = 103
  · exact r_tableIn (tgt := 108) X dX8_place_1 (by omega) (by omega) (by rw [e103]; rfl) (by decide) kd
  by_cases e105 : x.toInt = 105
  · exact r_tableIn (tgt := 108) X dX8_place_1 (by omega) (by omega) (by rw [e105]; rfl) (by decide) kd
  by_cases e106 : x.toInt = 106
  · exact r_tableIn (tgt := 108) X dX8_place_1 (by omega) (by omega) (by rw [e106]; rfl) (by decide) kd
  by_cases e108 : x.toInt = 108
  · exact r_tableIn (tgt := 108) X dX8_place_1 (by omega) (by omega) (by rw [e108]; rfl) (by decide) kd
  by_cases e109 : x.toInt = 109
  · exact r_tableIn (tgt := 108) X dX8_place_1 (by omega) (by omega) (by rw [e109]; rfl) (by decide) kd
  by_cases e110 : x.toInt = 110
  · exact r_tableIn (tgt := 108) X dX8_place_1 (by omega) (by omega) (by rw [e110]; rfl) (by decide) kd
  by_cases e111 : x.toInt = 111
  · exact r_tableIn (tgt := 108) X dX8_place_1 (by omega) (by omega) (by rw [e111]; rfl) (by decide) kd
  by_cases e113 : x.toInt = 113
  · exact r_tableIn (tgt := 108) X dX8_place_1 (by omega) (by omega) (by rw [e113]; rfl) (by decide) kd
  by_cases e114 : x.toInt = 114
  · exact r_tableIn (tgt := 108) X dX8_place_1 (by omega) (by omega) (by rw [e114]; rfl) (by decide) kd
  by_cases e116 : x.toInt = 116
  · exact r_tableIn (tgt := 108) X dX8_place_1 (by omega) (by omega) (by rw [e116]; rfl) (by decide) kd
  by_cases e117 : x.toInt = 117
  · exact r_tableIn (tgt := 108) X dX8_place_1 (by omega) (by omega) (by rw [e117]; rfl) (by decide) kd
  by_cases e118 : x.toInt = 118
  · exact r_tableIn (tgt := 108) X dX8_place_1 (by omega) (by omega) (by rw [e118]; rfl) (by decide) kd
  exfalso
  omega
set_option maxRecDepth 4000 in
theorem sw_X8_takesHead_4 (X : CX w κ d own cX8_takesHead nL rt Φ) {x : Int32} (k100 : x = nI 100 → GG w κ 54 L st h) (k102 : x = nI 102 → GG w κ 68 L st h) (k114 : x = nI 114 → GG w κ 40 L st h) (kd : ¬ x = nI 100 ∧ ¬ x = nI 102 ∧ ¬ x = nI 114 → GG w κ 83 L st h) : GG w κ 4 L (.int x :: st) h := by
  by_cases h100 : x = nI 100
  · exact r_lookup (tgt := 54) (off := 50) X dX8_takesHead_4 (by decide) (by rw [h100]; decide) (by decide) (k100 h100)
  by_cases h102 : x = nI 102
  · exact r_lookup (tgt := 68) (off := 64) X dX8_takesHead_4 (by decide) (by rw [h102]; decide) (by decide) (k102 h102)
  by_cases h114 : x = nI 114
  · exact r_lookup (tgt := 40) (off := 36) X dX8_takesHead_4 (by decide) (by rw [h114]; decide) (by decide) (k114 h114)
  have kd := kd ⟨h100, h102, h114⟩
  have g100 : ¬ x.toInt = 100 := ne_toInt h100 (by decide)
  have g102 : ¬ x.toInt = 102 := ne_toInt h102 (by decide)
  have g114 : ¬ x.toInt = 114 := ne_toInt h114 (by decide)
  exact r_lookup (tgt := 83) (off := 79) X dX8_takesHead_4 (by decide) (by simp [Op.lookupswitch.offset, Ne.symm g100, Ne.symm g102, Ne.symm g114]) (by decide) kd
set_option maxRecDepth 4000 in
theorem sw_X8_factOf_1 (X : CX w κ d own cX8_factOf nL rt Φ) {x : Int32} (k0 : x = nI 0 → GG w κ 36 L st h) (k1 : x = nI 1 → GG w κ 38 L st h) (k2 : x = nI 2 → GG w κ 45 L st h) (k3 : x = nI 3 → GG w κ 52 L st h) (k4 : x = nI 4 → GG w κ 59 L st h) (kd : ¬ x = nI 0 ∧ ¬ x = nI 1 ∧ ¬ x = nI 2 ∧ ¬ x = nI 3 ∧ ¬ x = nI 4 → GG w κ 67 L st h) : GG w κ 1 L (.int x :: st) h := by
  by_cases h0 : x = nI 0
  · exact r_tableIn (tgt := 36) X dX8_factOf_1 (by rw [h0]; decide) (by rw [h0]; decide) (by rw [h0]; rfl) (by decide) (k0 h0)
  by_cases h1 : x = nI 1
  · exact r_tableIn (tgt := 38) X dX8_factOf_1 (by rw [h1]; decide) (by rw [h1]; decide) (by rw [h1]; rfl) (by decide) (k1 h1)
  by_cases h2 : x = nI 2
  · exact r_tableIn (tgt := 45) X dX8_factOf_1 (by rw [h2]; decide) (by rw [h2]; decide) (by rw [h2]; rfl) (by decide) (k2 h2)
  by_cases h3 : x = nI 3
  · exact r_tableIn (tgt := 52) X dX8_factOf_1 (by rw [h3]; decide) (by rw [h3]; decide) (by rw [h3]; rfl) (by decide) (k3 h3)
  by_cases h4 : x = nI 4
  · exact r_tableIn (tgt := 59) X dX8_factOf_1 (by rw [h4]; decide) (by rw [h4]; decide) (by rw [h4]; rfl) (by decide) (k4 h4)
  have kd := kd ⟨h0, h1, h2, h3, h4⟩
  have g0 : ¬ x.toInt = 0 := ne_toInt h0 (by decide)
  have g1 : ¬ x.toInt = 1 := ne_toInt h1 (by decide)
  have g2 : ¬ x.toInt = 2 := ne_toInt h2 (by decide)
  have g3 : ¬ x.toInt = 3 := ne_toInt h3 (by decide)
  have g4 : ¬ x.toInt = 4 := ne_toInt h4 (by decide)
  by_cases hr : x.toInt < 0 ∨ 4 < x.toInt
  · exact r_tableOut (tgt := 67) X dX8_factOf_1 hr (by decide) kd
  exfalso
  omega
set_option maxRecDepth 4000 in
theorem sw_X8_reach_26 (X : CX w κ d own cX8_reach nL rt Φ) {x : Int32} (k1 : x = nI 1 → GG w κ 64 L st h) (k2 : x = nI 2 → GG w κ 79 L st h) (k4 : x = nI 4 → GG w κ 83 L st h) (k5 : x = nI 5 → GG w κ 100 L st h) (k6 : x = nI 6 → GG w κ 124 L st h) (kd : ¬ x = nI 1 ∧ ¬ x = nI 2 ∧ ¬ x = nI 4 ∧ ¬ x = nI 5 ∧ ¬ x = nI 6 → GG w κ 142 L st h) : GG w κ 26 L (.int x :: st) h := by
  by_cases h1 : x = nI 1
  · exact r_tableIn (tgt := 64) X dX8_reach_26 (by rw [h1]; decide) (by rw [h1]; decide) (by rw [h1]; rfl) (by decide) (k1 h1)
  by_cases h2 : x = nI 2
  · exact r_tableIn (tgt := 79) X dX8_reach_26 (by rw [h2]; decide) (by rw [h2]; decide) (by rw [h2]; rfl) (by decide) (k2 h2)
  by_cases h4 : x = nI 4
  · exact r_tableIn (tgt := 83) X dX8_reach_26 (by rw [h4]; decide) (by rw [h4]; decide) (by rw [h4]; rfl) (by decide) (k4 h4)
  by_cases h5 : x = nI 5
  · exact r_tableIn (tgt := 100) X dX8_reach_26 (by rw [h5]; decide) (by rw [h5]; decide) (by rw [h5]; rfl) (by decide) (k5 h5)
  by_cases h6 : x = nI 6
  · exact r_tableIn (tgt := 124) X dX8_reach_26 (by rw [h6]; decide) (by rw [h6]; decide) (by rw [h6]; rfl) (by decide) (k6 h6)
  have kd := kd ⟨h1, h2, h4, h5, h6⟩
  have g1 : ¬ x.toInt = 1 := ne_toInt h1 (by decide)
  have g2 : ¬ x.toInt = 2 := ne_toInt h2 (by decide)
  have g4 : ¬ x.toInt = 4 := ne_toInt h4 (by decide)
  have g5 : ¬ x.toInt = 5 := ne_toInt h5 (by decide)
  have g6 : ¬ x.toInt = 6 := ne_toInt h6 (by decide)
  by_cases hr : x.toInt < 1 ∨ 6 < x.toInt
  · exact r_tableOut (tgt := 142) X dX8_reach_26 hr (by decide) kd
  by_cases e3 : x.toInt = 3
  · exact r_tableIn (tgt := 142) X dX8_reach_26 (by omega) (by omega) (by rw [e3]; rfl) (by decide) kd
  exfalso
  omega
set_option maxRecDepth 4000 in
theorem sw_X8_toWhom_6 (X : CX w κ d own cX8_toWhom nL rt Φ) {x : Int32} (k2 : x = nI 2 → GG w κ 40 L st h) (k3 : x = nI 3 → GG w κ 60 L st h) (k5 : x = nI 5 → GG w κ 40 L st h) (k6 : x = nI 6 → GG w κ 60 L st h) (kd : ¬ x = nI 2 ∧ ¬ x = nI 3 ∧ ¬ x = nI 5 ∧ ¬ x = nI 6 → GG w κ 66 L st h) : GG w κ 6 L (.int x :: st) h := by
  by_cases h2 : x = nI 2
  · exact r_tableIn (tgt := 40) X dX8_toWhom_6 (by rw [h2]; decide) (by rw [h2]; decide) (by rw [h2]; rfl) (by decide) (k2 h2)
  by_cases h3 : x = nI 3
  · exact r_tableIn (tgt := 60) X dX8_toWhom_6 (by rw [h3]; decide) (by rw [h3]; decide) (by rw [h3]; rfl) (by decide) (k3 h3)
  by_cases h5 : x = nI 5
  · exact r_tableIn (tgt := 40) X dX8_toWhom_6 (by rw [h5]; decide) (by rw [h5]; decide) (by rw [h5]; rfl) (by decide) (k5 h5)
  by_cases h6 : x = nI 6
  · exact r_tableIn (tgt := 60) X dX8_toWhom_6 (by rw [h6]; decide) (by rw [h6]; decide) (by rw [h6]; rfl) (by decide) (k6 h6)
  have kd := kd ⟨h2, h3, h5, h6⟩
  have g2 : ¬ x.toInt = 2 := ne_toInt h2 (by decide)
  have g3 : ¬ x.toInt = 3 := ne_toInt h3 (by decide)
  have g5 : ¬ x.toInt = 5 := ne_toInt h5 (by decide)
  have g6 : ¬ x.toInt = 6 := ne_toInt h6 (by decide)
  by_cases hr : x.toInt < 2 ∨ 6 < x.toInt
  · exact r_tableOut (tgt := 66) X dX8_toWhom_6 hr (by decide) kd
  by_cases e4 : x.toInt = 4
  · exact r_tableIn (tgt := 66) X dX8_toWhom_6 (by omega) (by omega) (by rw [e4]; rfl) (by decide) kd
  exfalso
  omega
set_option maxRecDepth 4000 in
theorem sw_X8_of_13 (X : CX w κ d own cX8_of nL rt Φ) {x : Int32} (k0 : x = nI 0 → GG w κ 60 L st h) (k1 : x = nI 1 → GG w κ 67 L st h) (k2 : x = nI 2 → GG w κ 74 L st h) (k3 : x = nI 3 → GG w κ 81 L st h) (k4 : x = nI 4 → GG w κ 88 L st h) (k5 : x = nI 5 → GG w κ 95 L st h) (k6 : x = nI 6 → GG w κ 101 L st h) (k7 : x = nI 7 → GG w κ 111 L st h) (kd : ¬ x = nI 0 ∧ ¬ x = nI 1 ∧ ¬ x = nI 2 ∧ ¬ x = nI 3 ∧ ¬ x = nI 4 ∧ ¬ x = nI 5 ∧ ¬ x = nI 6 ∧ ¬ x = nI 7 → GG w κ 117 L st h) : GG w κ 13 L (.int x :: st) h := by
  by_cases h0 : x = nI 0
  · exact r_tableIn (tgt := 60) X dX8_of_13 (by rw [h0]; decide) (by rw [h0]; decide) (by rw [h0]; rfl) (by decide) (k0 h0)
  by_cases h1 : x = nI 1
  · exact r_tableIn (tgt := 67) X dX8_of_13 (by rw [h1]; decide) (by rw [h1]; decide) (by rw [h1]; rfl) (by decide) (k1 h1)
  by_cases h2 : x = nI 2
  · exact r_tableIn (tgt := 74) X dX8_of_13 (by rw [h2]; decide) (by rw [h2]; decide) (by rw [h2]; rfl) (by decide) (k2 h2)
  by_cases h3 : x = nI 3
  · exact r_tableIn (tgt := 81) X dX8_of_13 (by rw [h3]; decide) (by rw [h3]; decide) (by rw [h3]; rfl) (by decide) (k3 h3)
  by_cases h4 : x = nI 4
  · exact r_tableIn (tgt := 88) X dX8_of_13 (by rw [h4]; decide) (by rw [h4]; decide) (by rw [h4]; rfl) (by decide) (k4 h4)
  by_cases h5 : x = nI 5
  · exact r_tableIn (tgt := 95) X dX8_of_13 (by rw [h5]; decide) (by rw [h5]; decide) (by rw [h5]; rfl) (by decide) (k5 h5)
  by_cases h6 : x = nI 6
  · exact r_tableIn (tgt := 101) X dX8_of_13 (by rw [h6]; decide) (by rw [h6]; decide) (by rw [h6]; rfl) (by decide) (k6 h6)
  by_cases h7 : x = nI 7
  · exact r_tableIn (tgt := 111) X dX8_of_13 (by rw [h7]; decide) (by rw [h7]; decide) (by rw [h7]; rfl) (by decide) (k7 h7)
  have kd := kd ⟨h0, h1, h2, h3, h4, h5, h6, h7⟩
  have g0 : ¬ x.toInt = 0 := ne_toInt h0 (by decide)
  have g1 : ¬ x.toInt = 1 := ne_toInt h1 (by decide)
  have g2 : ¬ x.toInt = 2 := ne_toInt h2 (by decide)
  have g3 : ¬ x.toInt = 3 := ne_toInt h3 (by decide)
  have g4 : ¬ x.toInt = 4 := ne_toInt h4 (by decide)
  have g5 : ¬ x.toInt = 5 := ne_toInt h5 (by decide)
  have g6 : ¬ x.toInt = 6 := ne_toInt h6 (by decide)
  have g7 : ¬ x.toInt = 7 := ne_toInt h7 (by decide)
  by_cases hr : x.toInt < 0 ∨ 7 < x.toInt
  · exact r_tableOut (tgt := 117) X dX8_of_13 hr (by decide) kd
  exfalso
  omega
set_option maxRecDepth 4000 in
theorem sw_X8_told_1 (X : CX w κ d own cX8_told nL rt Φ) {x : Int32} (k0 : x = nI 0 → GG w κ 40 L st h) (k1 : x = nI 1 → GG w κ 45 L st h) (k2 : x = nI 2 → GG w κ 54 L st h) (k3 : x = nI 3 → GG w κ 59 L st h) (k4 : x = nI 4 → GG w κ 68 L st h) (k5 : x = nI 5 → GG w κ 76 L st h) (kd : ¬ x = nI 0 ∧ ¬ x = nI 1 ∧ ¬ x = nI 2 ∧ ¬ x = nI 3 ∧ ¬ x = nI 4 ∧ ¬ x = nI 5 → GG w κ 83 L st h) : GG w κ 1 L (.int x :: st) h := by
  by_cases h0 : x = nI 0
  · exact r_tableIn (tgt := 40) X dX8_told_1 (by rw [h0]; decide) (by rw [h0]; decide) (by rw [h0]; rfl) (by decide) (k0 h0)
  by_cases h1 : x = nI 1
  · exact r_tableIn (tgt := 45) X dX8_told_1 (by rw [h1]; decide) (by rw [h1]; decide) (by rw [h1]; rfl) (by decide) (k1 h1)
  by_cases h2 : x = nI 2
  · exact r_tableIn (tgt := 54) X dX8_told_1 (by rw [h2]; decide) (by rw [h2]; decide) (by rw [h2]; rfl) (by decide) (k2 h2)
  by_cases h3 : x = nI 3
  · exact r_tableIn (tgt := 59) X dX8_told_1 (by rw [h3]; decide) (by rw [h3]; decide) (by rw [h3]; rfl) (by decide) (k3 h3)
  by_cases h4 : x = nI 4
  · exact r_tableIn (tgt := 68) X dX8_told_1 (by rw [h4]; decide) (by rw [h4]; decide) (by rw [h4]; rfl) (by decide) (k4 h4)
  by_cases h5 : x = nI 5
  · exact r_tableIn (tgt := 76) X dX8_told_1 (by rw [h5]; decide) (by rw [h5]; decide) (by rw [h5]; rfl) (by decide) (k5 h5)
  have kd := kd ⟨h0, h1, h2, h3, h4, h5⟩
  have g0 : ¬ x.toInt = 0 := ne_toInt h0 (by decide)
  have g1 : ¬ x.toInt = 1 := ne_toInt h1 (by decide)
  have g2 : ¬ x.toInt = 2 := ne_toInt h2 (by decide)
  have g3 : ¬ x.toInt = 3 := ne_toInt h3 (by decide)
  have g4 : ¬ x.toInt = 4 := ne_toInt h4 (by decide)
  have g5 : ¬ x.toInt = 5 := ne_toInt h5 (by decide)
  by_cases hr : x.toInt < 0 ∨ 5 < x.toInt
  · exact r_tableOut (tgt := 83) X dX8_told_1 hr (by decide) kd
  exfalso
  omega
set_option maxRecDepth 4000 in
theorem sw_X8_waitsAct_6 (X : CX w κ d own cX8_waitsAct nL rt Φ) {x : Int32} (k2 : x = nI 2 → GG w κ 40 L st h) (k4 : x = nI 4 → GG w κ 55 L st h) (k5 : x = nI 5 → GG w κ 40 L st h) (k6 : x = nI 6 → GG w κ 69 L st h) (kd : ¬ x = nI 2 ∧ ¬ x = nI 4 ∧ ¬ x = nI 5 ∧ ¬ x = nI 6 → GG w κ 89 L st h) : GG w κ 6 L (.int x :: st) h := by
  by_cases h2 : x = nI 2
  · exact r_tableIn (tgt := 40) X dX8_waitsAct_6 (by rw [h2]; decide) (by rw [h2]; decide) (by rw [h2]; rfl) (by decide) (k2 h2)
  by_cases h4 : x = nI 4
  · exact r_tableIn (tgt := 55) X dX8_waitsAct_6 (by rw [h4]; decide) (by rw [h4]; decide) (by rw [h4]; rfl) (by decide) (k4 h4)
  by_cases h5 : x = nI 5
  · exact r_tableIn (tgt := 40) X dX8_waitsAct_6 (by rw [h5]; decide) (by rw [h5]; decide) (by rw [h5]; rfl) (by decide) (k5 h5)
  by_cases h6 : x = nI 6
  · exact r_tableIn (tgt := 69) X dX8_waitsAct_6 (by rw [h6]; decide) (by rw [h6]; decide) (by rw [h6]; rfl) (by decide) (k6 h6)
  have kd := kd ⟨h2, h4, h5, h6⟩
  have g2 : ¬ x.toInt = 2 := ne_toInt h2 (by decide)
  have g4 : ¬ x.toInt = 4 := ne_toInt h4 (by decide)
  have g5 : ¬ x.toInt = 5 := ne_toInt h5 (by decide)
  have g6 : ¬ x.toInt = 6 := ne_toInt h6 (by decide)
  by_cases hr : x.toInt < 2 ∨ 6 < x.toInt
  · exact r_tableOut (tgt := 89) X dX8_waitsAct_6 hr (by decide) kd
  by_cases e3 : x.toInt = 3
  · exact r_tableIn (tgt := 89) X dX8_waitsAct_6 (by omega) (by omega) (by rw [e3]; rfl) (by decide) kd
  exfalso
  omega
set_option maxRecDepth 4000 in
theorem sw_X8_tellsAct_6 (X : CX w κ d own cX8_tellsAct nL rt Φ) {x : Int32} (k1 : x = nI 1 → GG w κ 40 L st h) (k4 : x = nI 4 → GG w κ 47 L st h) (k6 : x = nI 6 → GG w κ 62 L st h) (kd : ¬ x = nI 1 ∧ ¬ x = nI 4 ∧ ¬ x = nI 6 → GG w κ 84 L st h) : GG w κ 6 L (.int x :: st) h := by
  by_cases h1 : x = nI 1
  · exact r_lookup (tgt := 40) (off := 34) X dX8_tellsAct_6 (by decide) (by rw [h1]; decide) (by decide) (k1 h1)
  by_cases h4 : x = nI 4
  · exact r_lookup (tgt := 47) (off := 41) X dX8_tellsAct_6 (by decide) (by rw [h4]; decide) (by decide) (k4 h4)
  by_cases h6 : x = nI 6
  · exact r_lookup (tgt := 62) (off := 56) X dX8_tellsAct_6 (by decide) (by rw [h6]; decide) (by decide) (k6 h6)
  have kd := kd ⟨h1, h4, h6⟩
  have g1 : ¬ x.toInt = 1 := ne_toInt h1 (by decide)
  have g4 : ¬ x.toInt = 4 := ne_toInt h4 (by decide)
  have g6 : ¬ x.toInt = 6 := ne_toInt h6 (by decide)
  exact r_lookup (tgt := 84) (off := 78) X dX8_tellsAct_6 (by decide) (by simp [Op.lookupswitch.offset, Ne.symm g1, Ne.symm g4, Ne.symm g6]) (by decide) kd
set_option maxRecDepth 4000 in
theorem sw_X8_hopesAct_6 (X : CX w κ d own cX8_hopesAct nL rt Φ) {x : Int32} (k3 : x = nI 3 → GG w κ 36 L st h) (k5 : x = nI 5 → GG w κ 58 L st h) (k6 : x = nI 6 → GG w κ 36 L st h) (kd : ¬ x = nI 3 ∧ ¬ x = nI 5 ∧ ¬ x = nI 6 → GG w κ 73 L st h) : GG w κ 6 L (.int x :: st) h := by
  by_cases h3 : x = nI 3
  · exact r_tableIn (tgt := 36) X dX8_hopesAct_6 (by rw [h3]; decide) (by rw [h3]; decide) (by rw [h3]; rfl) (by decide) (k3 h3)
  by_cases h5 : x = nI 5
  · exact r_tableIn (tgt := 58) X dX8_hopesAct_6 (by rw [h5]; decide) (by rw [h5]; decide) (by rw [h5]; rfl) (by decide) (k5 h5)
  by_cases h6 : x = nI 6
  · exact r_tableIn (tgt := 36) X dX8_hopesAct_6 (by rw [h6]; decide) (by rw [h6]; decide) (by rw [h6]; rfl) (by decide) (k6 h6)
  have kd := kd ⟨h3, h5, h6⟩
  have g3 : ¬ x.toInt = 3 := ne_toInt h3 (by decide)
  have g5 : ¬ x.toInt = 5 := ne_toInt h5 (by decide)
  have g6 : ¬ x.toInt = 6 := ne_toInt h6 (by decide)
  by_cases hr : x.toInt < 3 ∨ 6 < x.toInt
  · exact r_tableOut (tgt := 73) X dX8_hopesAct_6 hr (by decide) kd
  by_cases e4 : x.toInt = 4
  · exact r_tableIn (tgt := 73) X dX8_hopesAct_6 (by omega) (by omega) (by rw [e4]; rfl) (by decide) kd
  exfalso
  omega
set_option maxRecDepth 4000 in
theorem sw_X8_count_1 (X : CX w κ d own cX8_count nL rt Φ) {x : Int32} (k0 : x = nI 0 → GG w κ 44 L st h) (k1 : x = nI 1 → GG w κ 49 L st h) (k2 : x = nI 2 → GG w κ 54 L st h) (k3 : x = nI 3 → GG w κ 59 L st h) (k4 : x = nI 4 → GG w κ 64 L st h) (k5 : x = nI 5 → GG w κ 69 L st h) (k6 : x = nI 6 → GG w κ 74 L st h) (kd : ¬ x = nI 0 ∧ ¬ x = nI 1 ∧ ¬ x = nI 2 ∧ ¬ x = nI 3 ∧ ¬ x = nI 4 ∧ ¬ x = nI 5 ∧ ¬ x = nI 6 → GG w κ 79 L st h) : GG w κ 1 L (.int x :: st) h := by
  by_cases h0 : x = nI 0
  · exact r_tableIn (tgt := 44) X dX8_count_1 (by rw [h0]; decide) (by rw [h0]; decide) (by rw [h0]; rfl) (by decide) (k0 h0)
  by_cases h1 : x = nI 1
  · exact r_tableIn (tgt := 49) X dX8_count_1 (by rw [h1]; decide) (by rw [h1]; decide) (by rw [h1]; rfl) (by decide) (k1 h1)
  by_cases h2 : x = nI 2
  · exact r_tableIn (tgt := 54) X dX8_count_1 (by rw [h2]; decide) (by rw [h2]; decide) (by rw [h2]; rfl) (by decide) (k2 h2)
  by_cases h3 : x = nI 3
  · exact r_tableIn (tgt := 59) X dX8_count_1 (by rw [h3]; decide) (by rw [h3]; decide) (by rw [h3]; rfl) (by decide) (k3 h3)
  by_cases h4 : x = nI 4
  · exact r_tableIn (tgt := 64) X dX8_count_1 (by rw [h4]; decide) (by rw [h4]; decide) (by rw [h4]; rfl) (by decide) (k4 h4)
  by_cases h5 : x = nI 5
  · exact r_tableIn (tgt := 69) X dX8_count_1 (by rw [h5]; decide) (by rw [h5]; decide) (by rw [h5]; rfl) (by decide) (k5 h5)
  by_cases h6 : x = nI 6
  · exact r_tableIn (tgt := 74) X dX8_count_1 (by rw [h6]; decide) (by rw [h6]; decide) (by rw [h6]; rfl) (by decide) (k6 h6)
  have kd := kd ⟨h0, h1, h2, h3, h4, h5, h6⟩
  have g0 : ¬ x.toInt = 0 := ne_toInt h0 (by decide)
  have g1 : ¬ x.toInt = 1 := ne_toInt h1 (by decide)
  have g2 : ¬ x.toInt = 2 := ne_toInt h2 (by decide)
  have g3 : ¬ x.toInt = 3 := ne_toInt h3 (by decide)
  have g4 : ¬ x.toInt = 4 := ne_toInt h4 (by decide)
  have g5 : ¬ x.toInt = 5 := ne_toInt h5 (by decide)
  have g6 : ¬ x.toInt = 6 := ne_toInt h6 (by decide)
  by_cases hr : x.toInt < 0 ∨ 6 < x.toInt
  · exact r_tableOut (tgt := 79) X dX8_count_1 hr (by decide) kd
  exfalso
  omega
set_option maxRecDepth 4000 in
theorem sw_L_law_33 (X : CX w κ d own cL_law nL rt Φ) {x : Int32} (k0 : x = nI 0 → GG w κ 200 L st h) (k1 : x = nI 1 → GG w κ 253 L st h) (k2 : x = nI 2 → GG w κ 286 L st h) (k3 : x = nI 3 → GG w κ 329 L st h) (k4 : x = nI 4 → GG w κ 372 L st h) (k5 : x = nI 5 → GG w κ 395 L st h) (k6 : x = nI 6 → GG w κ 418 L st h) (k7 : x = nI 7 → GG w κ 441 L st h) (k8 : x = nI 8 → GG w κ 454 L st h) (k9 : x = nI 9 → GG w κ 477 L st h) (k10 : x = nI 10 → GG w κ 490 L st h) (k11 : x = nI 11 → GG w κ 523 L st h) (k12 : x = nI 12 → GG w κ 536 L st h) (k13 : x = nI 13 → GG w κ 549 L st h) (k14 : x = nI 14 → GG w κ 592 L st h) (k15 : x = nI 15 → GG w κ 625 L st h) (k16 : x = nI 16 → GG w κ 648 L st h) (k17 : x = nI 17 → GG w κ 661 L st h) (k18 : x = nI 18 → GG w κ 684 L st h) (k19 : x = nI 19 → GG w κ 717 L st h) (k20 : x = nI 20 → GG w κ 730 L st h) (k21 : x = nI 21 → GG w κ 763 L st h) (k22 : x = nI 22 → GG w κ 797 L st h) (k23 : x = nI 23 → GG w κ 831 L st h) (k24 : x = nI 24 → GG w κ 864 L st h) (k25 : x = nI 25 → GG w κ 887 L st h) (k26 : x = nI 26 → GG w κ 920 L st h) (k27 : x = nI 27 → GG w κ 933 L st h) (k28 : x = nI 28 → GG w κ 966 L st h) (k29 : x = nI 29 → GG w κ 979 L st h) (k30 : x = nI 30 → GG w κ 992 L st h) (k31 : x = nI 31 → GG w κ 1035 L st h) (k32 : x = nI 32 → GG w κ 1058 L st h) (k33 : x = nI 33 → GG w κ 1091 L st h) (k34 : x = nI 34 → GG w κ 1114 L st h) (k35 : x = nI 35 → GG w κ 1157 L st h) (k36 : x = nI 36 → GG w κ 1230 L st h) (k37 : x = nI 37 → GG w κ 1264 L st h) (kd : ¬ x = nI 0 ∧ ¬ x = nI 1 ∧ ¬ x = nI 2 ∧ ¬ x = nI 3 ∧ ¬ x = nI 4 ∧ ¬ x = nI 5 ∧ ¬ x = nI 6 ∧ ¬ x = nI 7 ∧ ¬ x = nI 8 ∧ ¬ x = nI 9 ∧ ¬ x = nI 10 ∧ ¬ x = nI 11 ∧ ¬ x = nI 12 ∧ ¬ x = nI 13 ∧ ¬ x = nI 14 ∧ ¬ x = nI 15 ∧ ¬ x = nI 16 ∧ ¬ x = nI 17 ∧ ¬ x = nI 18 ∧ ¬ x = nI 19 ∧ ¬ x = nI 20 ∧ ¬ x = nI 21 ∧ ¬ x = nI 22 ∧ ¬ x = nI 23 ∧ ¬ x = nI 24 ∧ ¬ x = nI 25 ∧ ¬ x = nI 26 ∧ ¬ x = nI 27 ∧ ¬ x = nI 28 ∧ ¬ x = nI 29 ∧ ¬ x = nI 30 ∧ ¬ x = nI 31 ∧ ¬ x = nI 32 ∧ ¬ x = nI 33 ∧ ¬ x = nI 34 ∧ ¬ x = nI 35 ∧ ¬ x = nI 36 ∧ ¬ x = nI 37 → GG w κ 1327 L st h) : GG w κ 33 L (.int x :: st) h := by
  by_cases h0 : x = nI 0
  · exact r_tableIn (tgt := 200) X dL_law_33 (by rw [h0]; decide) (by rw [h0]; decide) (by rw [h0]; rfl) (by decide) (k0 h0)
  by_cases h1 : x = nI 1
  · exact r_tableIn (tgt := 253) X dL_law_33 (by rw [h1]; decide) (by rw [h1]; decide) (by rw [h1]; rfl) (by decide) (k1 h1)
  by_cases h2 : x = nI 2
  · exact r_tableIn (tgt := 286) X dL_law_33 (by rw [h2]; decide) (by rw [h2]; decide) (by rw [h2]; rfl) (by decide) (k2 h2)
  by_cases h3 : x = nI 3
  · exact r_tableIn (tgt := 329) X dL_law_33 (by rw [h3]; decide) (by rw [h3]; decide) (by rw [h3]; rfl) (by decide) (k3 h3)
  by_cases h4 : x = nI 4
  · exact r_tableIn (tgt := 372) X dL_law_33 (by rw [h4]; decide) (by rw [h4]; decide) (by rw [h4]; rfl) (by decide) (k4 h4)
  by_cases h5 : x = nI 5
  · exact r_tableIn (tgt := 395) X dL_law_33 (by rw [h5]; decide) (by rw [h5]; decide) (by rw [h5]; rfl) (by decide) (k5 h5)
  by_cases h6 : x = nI 6
  · exact r_tableIn (tgt := 418) X dL_law_33 (by rw [h6]; decide) (by rw [h6]; decide) (by rw [h6]; rfl) (by decide) (k6 h6)
  by_cases h7 : x = nI 7
  · exact r_tableIn (tgt := 441) X dL_law_33 (by rw [h7]; decide) (by rw [h7]; decide) (by rw [h7]; rfl) (by decide) (k7 h7)
  by_cases h8 : x = nI 8
  · exact r_tableIn (tgt := 454) X dL_law_33 (by rw [h8]; decide) (by rw [h8]; decide) (by rw [h8]; rfl) (by decide) (k8 h8)
  by_cases h9 : x = nI 9
  · exact r_tableIn (tgt := 477) X dL_law_33 (by rw [h9]; decide) (by rw [h9]; decide) (by rw [h9]; rfl) (by decide) (k9 h9)
  by_cases h10 : x = nI 10
  · exact r_tableIn (tgt := 490) X dL_law_33 (by rw [h10]; decide) (by rw [h10]; decide) (by rw [h10]; rfl) (by decide) (k10 h10)
  by_cases h11 : x = nI 11
  · exact r_tableIn (tgt := 523) X dL_law_33 (by rw [h11]; decide) (by rw [h11]; decide) (by rw [h11]; rfl) (by decide) (k11 h11)
  by_cases h12 : x = nI 12
  · exact r_tableIn (tgt := 536) X dL_law_33 (by rw [h12]; decide) (by rw [h12]; decide) (by rw [h12]; rfl) (by decide) (k12 h12)
  by_cases h13 : x = nI 13
  · exact r_tableIn (tgt := 549) X dL_law_33 (by rw [h13]; decide) (by rw [h13]; decide) (by rw [h13]; rfl) (by decide) (k13 h13)
  by_cases h14 : x = nI 14
  · exact r_tableIn (tgt := 592) X dL_law_33 (by rw [h14]; decide) (by rw [h14]; decide) (by rw [h14]; rfl) (by decide) (k14 h14)
  by_cases h15 : x = nI 15
  · exact r_tableIn (tgt := 625) X dL_law_33 (by rw [h15]; decide) (by rw [h15]; decide) (by rw [h15]; rfl) (by decide) (k15 h15)
  by_cases h16 : x = nI 16
  · exact r_tableIn (tgt := 648) X dL_law_33 (by rw [h16]; decide) (by rw [h16]; decide) (by rw [h16]; rfl) (by decide) (k16 h16)
  by_cases h17 : x = nI 17
  · exact r_tableIn (tgt := 661) X dL_law_33 (by rw [h17]; decide) (by rw [h17]; decide) (by rw [h17]; rfl) (by decide) (k17 h17)
  by_cases h18 : x = nI 18
  · exact r_tableIn (tgt := 684) X dL_law_33 (by rw [h18]; decide) (by rw [h18]; decide) (by rw [h18]; rfl) (by decide) (k18 h18)
  by_cases h19 : x = nI 19
  · exact r_tableIn (tgt := 717) X dL_law_33 (by rw [h19]; decide) (by rw [h19]; decide) (by rw [h19]; rfl) (by decide) (k19 h19)
  by_cases h20 : x = nI 20
  · exact r_tableIn (tgt := 730) X dL_law_33 (by rw [h20]; decide) (by rw [h20]; decide) (by rw [h20]; rfl) (by decide) (k20 h20)
  by_cases h21 : x = nI 21
  · exact r_tableIn (tgt := 763) X dL_law_33 (by rw [h21]; decide) (by rw [h21]; decide) (by rw [h21]; rfl) (by decide) (k21 h21)
  by_cases h22 : x = nI 22
  · exact r_tableIn (tgt := 797) X dL_law_33 (by rw [h22]; decide) (by rw [h22]; decide) (by rw [h22]; rfl) (by decide) (k22 h22)
  by_cases h23 : x = nI 23
  · exact r_tableIn (tgt := 831) X dL_law_33 (by rw [h23]; decide) (by rw [h23]; decide) (by rw [h23]; rfl) (by decide) (k23 h23)
  by_cases h24 : x = nI 24
  · exact r_tableIn (tgt := 864) X dL_law_33 (by rw [h24]; decide) (by rw [h24]; decide) (by rw [h24]; rfl) (by decide) (k24 h24)
  by_cases h25 : x = nI 25
  · exact r_tableIn (tgt := 887) X dL_law_33 (by rw [h25]; decide) (by rw [h25]; decide) (by rw [h25]; rfl) (by decide) (k25 h25)
  by_cases h26 : x = nI 26
  · exact r_tableIn (tgt := 920) X dL_law_33 (by rw [h26]; decide) (by rw [h26]; decide) (by rw [h26]; rfl) (by decide) (k26 h26)
  by_cases h27 : x = nI 27
  · exact r_tableIn (tgt := 933) X dL_law_33 (by rw [h27]; decide) (by rw [h27]; decide) (by rw [h27]; rfl) (by decide) (k27 h27)
  by_cases h28 : x = nI 28
  · exact r_tableIn (tgt := 966) X dL_law_33 (by rw [h28]; decide) (by rw [h28]; decide) (by rw [h28]; rfl) (by decide) (k28 h28)
  by_cases h29 : x = nI 29
  · exact r_tableIn (tgt := 979) X dL_law_33 (by rw [h29]; decide) (by rw [h29]; decide) (by rw [h29]; rfl) (by decide) (k29 h29)
  by_cases h30 : x = nI 30
  · exact r_tableIn (tgt := 992) X dL_law_33 (by rw [h30]; decide) (by rw [h30]; decide) (by rw [h30]; rfl) (by decide) (k30 h30)
  by_cases h31 : x = nI 31
  · exact r_tableIn (tgt := 1035) X dL_law_33 (by rw [h31]; decide) (by rw [h31]; decide) (by rw [h31]; rfl) (by decide) (k31 h31)
  by_cases h32 : x = nI 32
  · exact r_tableIn (tgt := 1058) X dL_law_33 (by rw [h32]; decide) (by rw [h32]; decide) (by rw [h32]; rfl) (by decide) (k32 h32)
  by_cases h33 : x = nI 33
  · exact r_tableIn (tgt := 1091) X dL_law_33 (by rw [h33]; decide) (by rw [h33]; decide) (by rw [h33]; rfl) (by decide) (k33 h33)
  by_cases h34 : x = nI 34
  · exact r_tableIn (tgt := 1114) X dL_law_33 (by rw [h34]; decide) (by rw [h34]; decide) (by rw [h34]; rfl) (by decide) (k34 h34)
  by_cases h35 : x = nI 35
  · exact r_tableIn (tgt := 1157) X dL_law_33 (by rw [h35]; decide) (by rw [h35]; decide) (by rw [h35]; rfl) (by decide) (k35 h35)
  by_cases h36 : x = nI 36
  · exact r_tableIn (tgt := 1230) X dL_law_33 (by rw [h36]; decide) (by rw [h36]; decide) (by rw [h36]; rfl) (by decide) (k36 h36)
  by_cases h37 : x = nI 37
  · exact r_tableIn (tgt := 1264) X dL_law_33 (by rw [h37]; decide) (by rw [h37]; decide) (by rw [h37]; rfl) (by decide) (k37 h37)
  have kd := kd ⟨h0, h1, h2, h3, h4, h5, h6, h7, h8, h9, h10, h11, h12, h13, h14, h15, h16, h17, h18, h19, h20, h21, h22, h23, h24, h25, h26, h27, h28, h29, h30, h31, h32, h33, h34, h35, h36, h37⟩
  have g0 : ¬ x.toInt = 0 := ne_toInt h0 (by decide)
  have g1 : ¬ x.toInt = 1 := ne_toInt h1 (by decide)
  have g2 : ¬ x.toInt = 2 := ne_toInt h2 (by decide)
  have g3 : ¬ x.toInt = 3 := ne_toInt h3 (by decide)
  have g4 : ¬ x.toInt = 4 := ne_toInt h4 (by decide)
  have g5 : ¬ x.toInt = 5 := ne_toInt h5 (by decide)
  have g6 : ¬ x.toInt = 6 := ne_toInt h6 (by decide)
  have g7 : ¬ x.toInt = 7 := ne_toInt h7 (by decide)
  have g8 : ¬ x.toInt = 8 := ne_toInt h8 (by decide)
  have g9 : ¬ x.toInt = 9 := ne_toInt h9 (by decide)
  have g10 : ¬ x.toInt = 10 := ne_toInt h10 (by decide)
  have g11 : ¬ x.toInt = 11 := ne_toInt h11 (by decide)
  have g12 : ¬ x.toInt = 12 := ne_toInt h12 (by decide)
  have g13 : ¬ x.toInt = 13 := ne_toInt h13 (by decide)
  have g14 : ¬ x.toInt = 14 := ne_toInt h14 (by decide)
  have g15 : ¬ x.toInt = 15 := ne_toInt h15 (by decide)
  have g16 : ¬ x.toInt = 16 := ne_toInt h16 (by decide)
  have g17 : ¬ x.toInt = 17 := ne_toInt h17 (by decide)
  have g18 : ¬ x.toInt = 18 := ne_toInt h18 (by decide)
  have g19 : ¬ x.toInt = 19 := ne_toInt h19 (by decide)
  have g20 : ¬ x.toInt = 20 := ne_toInt h20 (by decide)
  have g21 : ¬ x.toInt = 21 := ne_toInt h21 (by decide)
  have g22 : ¬ x.toInt = 22 := ne_toInt h22 (by decide)
  have g23 : ¬ x.toInt = 23 := ne_toInt h23 (by decide)
  have g24 : ¬ x.toInt = 24 := ne_toInt h24 (by decide)
  have g25 : ¬ x.toInt = 25 := ne_toInt h25 (by decide)
  have g26 : ¬ x.toInt = 26 := ne_toInt h26 (by decide)
  have g27 : ¬ x.toInt = 27 := ne_toInt h27 (by decide)
  have g28 : ¬ x.toInt = 28 := ne_toInt h28 (by decide)
  have g29 : ¬ x.toInt = 29 := ne_toInt h29 (by decide)
  have g30 : ¬ x.toInt = 30 := ne_toInt h30 (by decide)
  have g31 : ¬ x.toInt = 31 := ne_toInt h31 (by decide)
  have g32 : ¬ x.toInt = 32 := ne_toInt h32 (by decide)
  have g33 : ¬ x.toInt = 33 := ne_toInt h33 (by decide)
  have g34 : ¬ x.toInt = 34 := ne_toInt h34 (by decide)
  have g35 : ¬ x.toInt = 35 := ne_toInt h35 (by decide)
  have g36 : ¬ x.toInt = 36 := ne_toInt h36 (by decide)
  have g37 : ¬ x.toInt = 37 := ne_toInt h37 (by decide)
  by_cases hr : x.toInt < 0 ∨ 37 < x.toInt
  · exact r_tableOut (tgt := 1327) X dL_law_33 hr (by decide) kd
  exfalso
  omega
end RT
