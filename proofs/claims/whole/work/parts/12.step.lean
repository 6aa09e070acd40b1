/-! the street's own methods: what is changed -/
theorem cd_s {c : Nat} (hc : c < 2 ^ 31) : nI c >>> (nI 16 &&& 31) = nI (c / 65536) := pk_shrN hc _ 16 (by decide)
theorem cd_l {c : Nat} (hc : c < 2 ^ 31) : (nI c >>> (nI 8 &&& 31)) &&& nI 255 = nI (c / 256 % 256) := by
  rw [pk_shrN hc _ 8 (by decide), pk_andN (by omega) 8 (by decide)]
theorem cd_v {c : Nat} (hc : c < 2 ^ 31) : nI c &&& nI 255 = nI (c % 256) := pk_andN (by omega) 8 (by decide)
theorem rloop_s {cs f : Nat → Int32} {k c : Nat} (h : cs k = nI c) (hc : c < 2 ^ 31) : rloop cs f (k + 1) = rstep f c (rloop cs f k) := by
  rw [rloop, h, nI_clamp hc]
def handF (V : VT) (x : Int32) : VT := vU (vU V 0 7 x) 0 10 (-5)
/-- an evening's cells lie outside a street -/
def evD (h : hp_T) (o : Nat) (r : Option Nat) : Prop := ∀ e, r = some e → (e < o ∨ o + 6 < e) ∧ ∀ c, h_r h e 0 = some c → (c < o ∨ o + 6 < c)
theorem evS {h : hp_T} {M M1 : Mem} {o : Nat} {r : Option Nat} {E : EV} (hE : evC h M r E) (hD : evD h o r) (hk : ∀ b, (b < o ∨ o + 6 < b) → M1 b = M b) : evC h M1 r E :=
  hE.kept (fun e he => hk e (hD e he).1) (fun e c he hc => hk c ((hD e he).2 c hc))
set_option maxRecDepth 10000 in
set_option maxHeartbeats 4000000 in
theorem e_fact : ∀ (d : Nat) {h : hp_T} {o p l : Nat} (S : St h o) (hp : p < 6) (hl : l ≤ 5), Ep d nX5_fact [.ref o, .int (nI l), .int (nI p)] h (.int (factsF (Sv (h_i h) o) p l)) := by
  intro d h o p l S hp hl
  refine Ex.of mm_X5_fact (Nat.le_of_ble_eq_true rfl) fun w κ X hk hnm => ?_
  rcases (show l = 0 ∨ l = 1 ∨ l = 2 ∨ l = 3 ∨ l = 4 ∨ l = 5 by omega) with rfl | rfl | rfl | rfl | rfl | rfl
  · refine r_iload_n (pc := 0) X dX5_fact_0 rfl ?_
    refine r_tableIn (pc := 1) (tgt := 36) X dX5_fact_1 (by rw [(rfl : nI 0 = nI 0)]; decide) (by rw [(rfl : nI 0 = nI 0)]; decide) (by rw [(rfl : nI 0 = nI 0)]; rfl) (by decide) ?_
    refine r_iload_n (pc := 36) X dX5_fact_36 rfl ?_
    refine r_iret (pc := 37) X dX5_fact_37 rfl rfl ?_
    exact ⟨⟨rfl, rfl⟩, rfl⟩
  · refine r_iload_n (pc := 0) X dX5_fact_0 rfl ?_
    refine r_tableIn (pc := 1) (tgt := 38) X dX5_fact_1 (by rw [(rfl : nI 1 = nI 1)]; decide) (by rw [(rfl : nI 1 = nI 1)]; decide) (by rw [(rfl : nI 1 = nI 1)]; rfl) (by decide) ?_
    refine r_aload_n (pc := 38) X dX5_fact_38 rfl ?_
    refine r_getr (pc := 39) X dX5_fact_39 tf_5_9 rfl S.c0 S.r0 ?_
    refine r_iload_n (pc := 42) X dX5_fact_42 rfl ?_
    refine r_iald (pc := 43) X dX5_fact_43 S.a1 rfl (by omega) (by omega) rfl ?_
    refine r_iret (pc := 44) X dX5_fact_44 rfl rfl ?_
    exact ⟨⟨rfl, rfl⟩, rfl⟩
  · refine r_iload_n (pc := 0) X dX5_fact_0 rfl ?_
    refine r_tableIn (pc := 1) (tgt := 45) X dX5_fact_1 (by rw [(rfl : nI 2 = nI 2)]; decide) (by rw [(rfl : nI 2 = nI 2)]; decide) (by rw [(rfl : nI 2 = nI 2)]; rfl) (by decide) ?_
    refine r_aload_n (pc := 45) X dX5_fact_45 rfl ?_
    refine r_getr (pc := 46) X dX5_fact_46 tf_5_18 rfl S.c0 S.r2 ?_
    refine r_iload_n (pc := 49) X dX5_fact_49 rfl ?_
    refine r_iald (pc := 50) X dX5_fact_50 S.a3 rfl (by omega) (by omega) rfl ?_
    refine r_iret (pc := 51) X dX5_fact_51 rfl rfl ?_
    exact ⟨⟨rfl, rfl⟩, rfl⟩
  · refine r_iload_n (pc := 0) X dX5_fact_0 rfl ?_
    refine r_tableIn (pc := 1) (tgt := 52) X dX5_fact_1 (by rw [(rfl : nI 3 = nI 3)]; decide) (by rw [(rfl : nI 3 = nI 3)]; decide) (by rw [(rfl : nI 3 = nI 3)]; rfl) (by decide) ?_
    refine r_aload_n (pc := 52) X dX5_fact_52 rfl ?_
    refine r_getr (pc := 53) X dX5_fact_53 tf_5_21 rfl S.c0 S.r3 ?_
    refine r_iload_n (pc := 56) X dX5_fact_56 rfl ?_
    refine r_iald (pc := 57) X dX5_fact_57 S.a4 rfl (by omega) (by omega) rfl ?_
    refine r_iret (pc := 58) X dX5_fact_58 rfl rfl ?_
    exact ⟨⟨rfl, rfl⟩, rfl⟩
  · refine r_iload_n (pc := 0) X dX5_fact_0 rfl ?_
    refine r_tableIn (pc := 1) (tgt := 59) X dX5_fact_1 (by rw [(rfl : nI 4 = nI 4)]; decide) (by rw [(rfl : nI 4 = nI 4)]; decide) (by rw [(rfl : nI 4 = nI 4)]; rfl) (by decide) ?_
    refine r_aload_n (pc := 59) X dX5_fact_59 rfl ?_
    refine r_geti (pc := 60) X dX5_fact_60 tf_5_46 rfl S.c0 rfl ?_
    refine r_bipush (pc := 63) (v := (nI 10)) X dX5_fact_63 (by decide) ?_
    refine r_idiv (pc := 65) X dX5_fact_65 (by decide) ?_
    refine r_iret (pc := 66) X dX5_fact_66 rfl rfl ?_
    exact ⟨⟨rfl, rfl⟩, rfl⟩
  · refine r_iload_n (pc := 0) X dX5_fact_0 rfl ?_
    refine r_tableOut (pc := 1) (tgt := 67) X dX5_fact_1 (Or.inr (by decide)) (by decide) ?_
    refine r_aload_n (pc := 67) X dX5_fact_67 rfl ?_
    refine r_geti (pc := 68) X dX5_fact_68 tf_5_49 rfl S.c0 rfl ?_
    refine r_bipush (pc := 71) (v := (nI 10)) X dX5_fact_71 (by decide) ?_
    refine r_irem (pc := 73) X dX5_fact_73 (by decide) ?_
    refine r_iret (pc := 74) X dX5_fact_74 rfl rfl ?_
    exact ⟨⟨rfl, rfl⟩, rfl⟩
set_option maxRecDepth 10000 in
set_option maxHeartbeats 4000000 in
theorem l_evrain : ∀ (d : Nat) {h : hp_T} {e c n o p : Nat} (he : ck h e 0 1) (hc : h_r h e 0 = some c) (hcc : ck h c 1 n) (hn : n ≤ 100) (hok : okC n (h_i h c)) (S : St h o) (hp : p < 6) {w : wc_T} {κ : cx_T} {Φ : Option Value → hp_T → Prop} (X : CX w κ (d + 1) 1 cX1_rain 8 (some .int) Φ) (hΦ : Φ (some (.int (rainC n (h_i h c) (factsF (Sv (h_i h) o) p)))) h),
    ∀ (m k : Nat) (u1 u2 : Option Value), k + m = n → GG w κ 8 [some (.ref e), some (.ref o), some (.int (nI p)), some (.int (rloop (h_i h c) (factsF (Sv (h_i h) o) p) k).2), some (.int (rloop (h_i h c) (factsF (Sv (h_i h) o) p) k).1), some (.int (nI k)), u1, u2] [] h := by
  intro d h e c n o p he hc hcc hn hok S hp w κ Φ X hΦ m
  induction m with
  | zero =>
    intro k u1 u2 hk
    have hkn : k = n := by omega
    subst hkn
    refine r_iload (pc := 8) X dX1_rain_8 rfl ?_
    refine r_aload_n (pc := 10) X dX1_rain_10 rfl ?_
    refine r_getr (pc := 11) X dX1_rain_11 tf_1_7 rfl he hc ?_
    refine r_alen (pc := 14) X dX1_rain_14 hcc (by decide) rfl ?_
    refine r_icmp_geN (pc := 15) X dX1_rain_15 (tgt := 239) (by decide) (by omega) (by omega) (fun c15 => ?_) (fun c15 => ?_)
    · refine r_iload_n (pc := 239) X dX1_rain_239 rfl ?_
      refine r_iret (pc := 240) X dX1_rain_240 rfl rfl ?_
      exact hΦ
    · exact absurd (Nat.le_refl _) c15
  | succ m ih =>
    intro k u1 u2 hk
    obtain ⟨s, l, v, hs, hl, hv, ec⟩ := hok k (by omega)
    obtain ⟨cc0, hcc0⟩ : ∃ z, z = s * 65536 + l * 256 + v := ⟨_, rfl⟩
    rw [← hcc0] at ec
    have hlt : cc0 < 2 ^ 31 := by omega
    have e1 : cc0 / 65536 = s := by omega
    have e2 : cc0 / 256 % 256 = l := by omega
    have e3 : cc0 % 256 = v := by omega
    have g0 := rloop_s (f := (factsF (Sv (h_i h) o) p)) ec hlt
    rcases (show s = 0 ∨ s = 1 ∨ s = 2 ∨ s = 3 ∨ s = 4 ∨ s = 5 ∨ s = 6 ∨ s = 7 by omega) with rfl | rfl | rfl | rfl | rfl | rfl | rfl | rfl
    · refine r_iload (pc := 8) X dX1_rain_8 rfl ?_
      refine r_aload_n (pc := 10) X dX1_rain_10 rfl ?_
      refine r_getr (pc := 11) X dX1_rain_11 tf_1_7 rfl he hc ?_
      refine r_alen (pc := 14) X dX1_rain_14 hcc (by decide) rfl ?_
      refine r_icmp_geN (pc := 15) X dX1_rain_15 (tgt := 239) (by decide) (by omega) (by omega) (fun c15 => ?_) (fun c15 => ?_)
      · exact absurd c15 (by omega)
      · refine r_aload_n (pc := 18) X dX1_rain_18 rfl ?_
        refine r_aload_n (pc := 19) X dX1_rain_19 rfl ?_
        refine r_getr (pc := 20) X dX1_rain_20 tf_1_7 rfl he hc ?_
        refine r_iload (pc := 23) X dX1_rain_23 rfl ?_
        refine r_iald (pc := 25) X dX1_rain_25 hcc rfl (by omega) (by omega) ec ?_
        refine r_bipush (pc := 26) (v := (nI 8)) X dX1_rain_26 (by decide) ?_
        refine r_ishr (pc := 28) X dX1_rain_28 ?_
        refine r_sipush (pc := 29) (v := (nI 255)) X dX1_rain_29 (by decide) ?_
        refine r_iand (pc := 32) X dX1_rain_32 ?_
        refine r_top ((cd_l hlt).trans (by rw [e2])) ?_
        refine r_iload_n (pc := 33) X dX1_rain_33 rfl ?_
        refine r_c0_2P (pc := 34) X rfl dX1_rain_34 tc_1_20 mm_X5_fact S.c0 rfl rfl (e_fact d S hp hl) (Nat.le_of_ble_eq_true rfl) ?_
        refine r_istore (pc := 37) X dX1_rain_37 (Nat.le_of_ble_eq_true rfl) ?_
        refine r_aload_n (pc := 39) X dX1_rain_39 rfl ?_
        refine r_getr (pc := 40) X dX1_rain_40 tf_1_7 rfl he hc ?_
        refine r_iload (pc := 43) X dX1_rain_43 rfl ?_
        refine r_iald (pc := 45) X dX1_rain_45 hcc rfl (by omega) (by omega) ec ?_
        refine r_sipush (pc := 46) (v := (nI 255)) X dX1_rain_46 (by decide) ?_
        refine r_iand (pc := 49) X dX1_rain_49 ?_
        refine r_top ((cd_v hlt).trans (by rw [e3])) ?_
        refine r_istore (pc := 50) X dX1_rain_50 (Nat.le_of_ble_eq_true rfl) ?_
        refine r_aload_n (pc := 52) X dX1_rain_52 rfl ?_
        refine r_getr (pc := 53) X dX1_rain_53 tf_1_7 rfl he hc ?_
        refine r_iload (pc := 56) X dX1_rain_56 rfl ?_
        refine r_iald (pc := 58) X dX1_rain_58 hcc rfl (by omega) (by omega) ec ?_
        refine r_bipush (pc := 59) (v := (nI 16)) X dX1_rain_59 (by decide) ?_
        refine r_ishr (pc := 61) X dX1_rain_61 ?_
        refine r_top ((cd_s hlt).trans (by rw [e1])) ?_
        refine r_tableIn (pc := 62) (tgt := 104) X dX1_rain_62 (by rw [(rfl : nI 0 = nI 0)]; decide) (by rw [(rfl : nI 0 = nI 0)]; decide) (by rw [(rfl : nI 0 = nI 0)]; rfl) (by decide) ?_
        refine r_iload (pc := 104) X dX1_rain_104 rfl ?_
        refine r_iconst (pc := 106) (v := (nI 1)) X dX1_rain_106 (by decide) ?_
        refine r_ishl (pc := 107) X dX1_rain_107 ?_
        refine r_iload (pc := 108) X dX1_rain_108 rfl ?_
        refine r_iload (pc := 110) X dX1_rain_110 rfl ?_
        refine r_icmp_ge (pc := 112) X dX1_rain_112 (tgt := 119) (by decide) (fun c112 => ?_) (fun c112 => ?_)
        · refine r_iconst (pc := 119) (v := (nI 0)) X dX1_rain_119 (by decide) ?_
          refine r_ior (pc := 120) X dX1_rain_120 ?_
          refine r_istore (pc := 121) X dX1_rain_121 (Nat.le_of_ble_eq_true rfl) ?_
          refine r_goto (pc := 123) X dX1_rain_123 (tgt := 233) (by decide) ?_
          refine r_iinc (pc := 233) X dX1_rain_233 rfl (by first | exact nI_i1 _ | rfl) ?_
          refine r_goto (pc := 236) X dX1_rain_236 (tgt := 8) (by decide) ?_
          have g := ih (k + 1) (some (.int ((factsF (Sv (h_i h) o) p) l))) (some (.int (nI v))) (by omega)
          rw [g0] at g
          simp only [rstep, e1, e2, e3] at g
          first | rw [decide_eq_true c112] at g | rw [decide_eq_false c112] at g
          try simp only [Bool.not_true, Bool.not_false] at g
          simp only [b2] at g
          exact g
        · refine r_iconst (pc := 115) (v := (nI 1)) X dX1_rain_115 (by decide) ?_
          refine r_goto (pc := 116) X dX1_rain_116 (tgt := 120) (by decide) ?_
          refine r_ior (pc := 120) X dX1_rain_120 ?_
          refine r_istore (pc := 121) X dX1_rain_121 (Nat.le_of_ble_eq_true rfl) ?_
          refine r_goto (pc := 123) X dX1_rain_123 (tgt := 233) (by decide) ?_
          refine r_iinc (pc := 233) X dX1_rain_233 rfl (by first | exact nI_i1 _ | rfl) ?_
          refine r_goto (pc := 236) X dX1_rain_236 (tgt := 8) (by decide) ?_
          have g := ih (k + 1) (some (.int ((factsF (Sv (h_i h) o) p) l))) (some (.int (nI v))) (by omega)
          rw [g0] at g
          simp only [rstep, e1, e2, e3] at g
          first | rw [decide_eq_true c112] at g | rw [decide_eq_false c112] at g
          try simp only [Bool.not_true, Bool.not_false] at g
          simp only [b2] at g
          exact g
    · refine r_iload (pc := 8) X dX1_rain_8 rfl ?_
      refine r_aload_n (pc := 10) X dX1_rain_10 rfl ?_
      refine r_getr (pc := 11) X dX1_rain_11 tf_1_7 rfl he hc ?_
      refine r_alen (pc := 14) X dX1_rain_14 hcc (by decide) rfl ?_
      refine r_icmp_geN (pc := 15) X dX1_rain_15 (tgt := 239) (by decide) (by omega) (by omega) (fun c15 => ?_) (fun c15 => ?_)
      · exact absurd c15 (by omega)
      · refine r_aload_n (pc := 18) X dX1_rain_18 rfl ?_
        refine r_aload_n (pc := 19) X dX1_rain_19 rfl ?_
        refine r_getr (pc := 20) X dX1_rain_20 tf_1_7 rfl he hc ?_
        refine r_iload (pc := 23) X dX1_rain_23 rfl ?_
        refine r_iald (pc := 25) X dX1_rain_25 hcc rfl (by omega) (by omega) ec ?_
        refine r_bipush (pc := 26) (v := (nI 8)) X dX1_rain_26 (by decide) ?_
        refine r_ishr (pc := 28) X dX1_rain_28 ?_
        refine r_sipush (pc := 29) (v := (nI 255)) X dX1_rain_29 (by decide) ?_
        refine r_iand (pc := 32) X dX1_rain_32 ?_
        refine r_top ((cd_l hlt).trans (by rw [e2])) ?_
        refine r_iload_n (pc := 33) X dX1_rain_33 rfl ?_
        refine r_c0_2P (pc := 34) X rfl dX1_rain_34 tc_1_20 mm_X5_fact S.c0 rfl rfl (e_fact d S hp hl) (Nat.le_of_ble_eq_true rfl) ?_
        refine r_istore (pc := 37) X dX1_rain_37 (Nat.le_of_ble_eq_true rfl) ?_
        refine r_aload_n (pc := 39) X dX1_rain_39 rfl ?_
        refine r_getr (pc := 40) X dX1_rain_40 tf_1_7 rfl he hc ?_
        refine r_iload (pc := 43) X dX1_rain_43 rfl ?_
        refine r_iald (pc := 45) X dX1_rain_45 hcc rfl (by omega) (by omega) ec ?_
        refine r_sipush (pc := 46) (v := (nI 255)) X dX1_rain_46 (by decide) ?_
        refine r_iand (pc := 49) X dX1_rain_49 ?_
        refine r_top ((cd_v hlt).trans (by rw [e3])) ?_
        refine r_istore (pc := 50) X dX1_rain_50 (Nat.le_of_ble_eq_true rfl) ?_
        refine r_aload_n (pc := 52) X dX1_rain_52 rfl ?_
        refine r_getr (pc := 53) X dX1_rain_53 tf_1_7 rfl he hc ?_
        refine r_iload (pc := 56) X dX1_rain_56 rfl ?_
        refine r_iald (pc := 58) X dX1_rain_58 hcc rfl (by omega) (by omega) ec ?_
        refine r_bipush (pc := 59) (v := (nI 16)) X dX1_rain_59 (by decide) ?_
        refine r_ishr (pc := 61) X dX1_rain_61 ?_
        refine r_top ((cd_s hlt).trans (by rw [e1])) ?_
        refine r_tableIn (pc := 62) (tgt := 126) X dX1_rain_62 (by rw [(rfl : nI 1 = nI 1)]; decide) (by rw [(rfl : nI 1 = nI 1)]; decide) (by rw [(rfl : nI 1 = nI 1)]; rfl) (by decide) ?_
        refine r_iload (pc := 126) X dX1_rain_126 rfl ?_
        refine r_iconst (pc := 128) (v := (nI 1)) X dX1_rain_128 (by decide) ?_
        refine r_ishl (pc := 129) X dX1_rain_129 ?_
        refine r_iload (pc := 130) X dX1_rain_130 rfl ?_
        refine r_iload (pc := 132) X dX1_rain_132 rfl ?_
        refine r_icmp_ne (pc := 134) X dX1_rain_134 (tgt := 141) (by decide) (fun c134 => ?_) (fun c134 => ?_)
        · refine r_iconst (pc := 141) (v := (nI 0)) X dX1_rain_141 (by decide) ?_
          refine r_ior (pc := 142) X dX1_rain_142 ?_
          refine r_istore (pc := 143) X dX1_rain_143 (Nat.le_of_ble_eq_true rfl) ?_
          refine r_goto (pc := 145) X dX1_rain_145 (tgt := 233) (by decide) ?_
          refine r_iinc (pc := 233) X dX1_rain_233 rfl (by first | exact nI_i1 _ | rfl) ?_
          refine r_goto (pc := 236) X dX1_rain_236 (tgt := 8) (by decide) ?_
          have g := ih (k + 1) (some (.int ((factsF (Sv (h_i h) o) p) l))) (some (.int (nI v))) (by omega)
          rw [g0] at g
          simp only [rstep, e1, e2, e3] at g
          first | rw [decide_eq_true c134] at g | rw [decide_eq_false c134] at g
          try simp only [Bool.not_true, Bool.not_false] at g
          simp only [b2] at g
          exact g
        · refine r_iconst (pc := 137) (v := (nI 1)) X dX1_rain_137 (by decide) ?_
          refine r_goto (pc := 138) X dX1_rain_138 (tgt := 142) (by decide) ?_
          refine r_ior (pc := 142) X dX1_rain_142 ?_
          refine r_istore (pc := 143) X dX1_rain_143 (Nat.le_of_ble_eq_true rfl) ?_
          refine r_goto (pc := 145) X dX1_rain_145 (tgt := 233) (by decide) ?_
          refine r_iinc (pc := 233) X dX1_rain_233 rfl (by first | exact nI_i1 _ | rfl) ?_
          refine r_goto (pc := 236) X dX1_rain_236 (tgt := 8) (by decide) ?_
          have g := ih (k + 1) (some (.int ((factsF (Sv (h_i h) o) p) l))) (some (.int (nI v))) (by omega)
          rw [g0] at g
          simp only [rstep, e1, e2, e3] at g
          first | rw [decide_eq_true c134] at g | rw [decide_eq_false c134] at g
          try simp only [Bool.not_true, Bool.not_false] at g
          simp only [b2] at g
          exact g
    · refine r_iload (pc := 8) X dX1_rain_8 rfl ?_
      refine r_aload_n (pc := 10) X dX1_rain_10 rfl ?_
      refine r_getr (pc := 11) X dX1_rain_11 tf_1_7 rfl he hc ?_
      refine r_alen (pc := 14) X dX1_rain_14 hcc (by decide) rfl ?_
      refine r_icmp_geN (pc := 15) X dX1_rain_15 (tgt := 239) (by decide) (by omega) (by omega) (fun c15 => ?_) (fun c15 => ?_)
      · exact absurd c15 (by omega)
      · refine r_aload_n (pc := 18) X dX1_rain_18 rfl ?_
        refine r_aload_n (pc := 19) X dX1_rain_19 rfl ?_
        refine r_getr (pc := 20) X dX1_rain_20 tf_1_7 rfl he hc ?_
        refine r_iload (pc := 23) X dX1_rain_23 rfl ?_
        refine r_iald (pc := 25) X dX1_rain_25 hcc rfl (by omega) (by omega) ec ?_
        refine r_bipush (pc := 26) (v := (nI 8)) X dX1_rain_26 (by decide) ?_
        refine r_ishr (pc := 28) X dX1_rain_28 ?_
        refine r_sipush (pc := 29) (v := (nI 255)) X dX1_rain_29 (by decide) ?_
        refine r_iand (pc := 32) X dX1_rain_32 ?_
        refine r_top ((cd_l hlt).trans (by rw [e2])) ?_
        refine r_iload_n (pc := 33) X dX1_rain_33 rfl ?_
        refine r_c0_2P (pc := 34) X rfl dX1_rain_34 tc_1_20 mm_X5_fact S.c0 rfl rfl (e_fact d S hp hl) (Nat.le_of_ble_eq_true rfl) ?_
        refine r_istore (pc := 37) X dX1_rain_37 (Nat.le_of_ble_eq_true rfl) ?_
        refine r_aload_n (pc := 39) X dX1_rain_39 rfl ?_
        refine r_getr (pc := 40) X dX1_rain_40 tf_1_7 rfl he hc ?_
        refine r_iload (pc := 43) X dX1_rain_43 rfl ?_
        refine r_iald (pc := 45) X dX1_rain_45 hcc rfl (by omega) (by omega) ec ?_
        refine r_sipush (pc := 46) (v := (nI 255)) X dX1_rain_46 (by decide) ?_
        refine r_iand (pc := 49) X dX1_rain_49 ?_
        refine r_top ((cd_v hlt).trans (by rw [e3])) ?_
        refine r_istore (pc := 50) X dX1_rain_50 (Nat.le_of_ble_eq_true rfl) ?_
        refine r_aload_n (pc := 52) X dX1_rain_52 rfl ?_
        refine r_getr (pc := 53) X dX1_rain_53 tf_1_7 rfl he hc ?_
        refine r_iload (pc := 56) X dX1_rain_56 rfl ?_
        refine r_iald (pc := 58) X dX1_rain_58 hcc rfl (by omega) (by omega) ec ?_
        refine r_bipush (pc := 59) (v := (nI 16)) X dX1_rain_59 (by decide) ?_
        refine r_ishr (pc := 61) X dX1_rain_61 ?_
        refine r_top ((cd_s hlt).trans (by rw [e1])) ?_
        refine r_tableIn (pc := 62) (tgt := 148) X dX1_rain_62 (by rw [(rfl : nI 2 = nI 2)]; decide) (by rw [(rfl : nI 2 = nI 2)]; decide) (by rw [(rfl : nI 2 = nI 2)]; rfl) (by decide) ?_
        refine r_iload (pc := 148) X dX1_rain_148 rfl ?_
        refine r_iconst (pc := 150) (v := (nI 1)) X dX1_rain_150 (by decide) ?_
        refine r_ishl (pc := 151) X dX1_rain_151 ?_
        refine r_iload (pc := 152) X dX1_rain_152 rfl ?_
        refine r_iload (pc := 154) X dX1_rain_154 rfl ?_
        refine r_icmp_le (pc := 156) X dX1_rain_156 (tgt := 163) (by decide) (fun c156 => ?_) (fun c156 => ?_)
        · refine r_iconst (pc := 163) (v := (nI 0)) X dX1_rain_163 (by decide) ?_
          refine r_ior (pc := 164) X dX1_rain_164 ?_
          refine r_istore (pc := 165) X dX1_rain_165 (Nat.le_of_ble_eq_true rfl) ?_
          refine r_goto (pc := 167) X dX1_rain_167 (tgt := 233) (by decide) ?_
          refine r_iinc (pc := 233) X dX1_rain_233 rfl (by first | exact nI_i1 _ | rfl) ?_
          refine r_goto (pc := 236) X dX1_rain_236 (tgt := 8) (by decide) ?_
          have g := ih (k + 1) (some (.int ((factsF (Sv (h_i h) o) p) l))) (some (.int (nI v))) (by omega)
          rw [g0] at g
          simp only [rstep, e1, e2, e3] at g
          first | rw [decide_eq_true c156] at g | rw [decide_eq_false c156] at g
          try simp only [Bool.not_true, Bool.not_false] at g
          simp only [b2] at g
          exact g
        · refine r_iconst (pc := 159) (v := (nI 1)) X dX1_rain_159 (by decide) ?_
          refine r_goto (pc := 160) X dX1_rain_160 (tgt := 164) (by decide) ?_
          refine r_ior (pc := 164) X dX1_rain_164 ?_
          refine r_istore (pc := 165) X dX1_rain_165 (Nat.le_of_ble_eq_true rfl) ?_
          refine r_goto (pc := 167) X dX1_rain_167 (tgt := 233) (by decide) ?_
          refine r_iinc (pc := 233) X dX1_rain_233 rfl (by first | exact nI_i1 _ | rfl) ?_
          refine r_goto (pc := 236) X dX1_rain_236 (tgt := 8) (by decide) ?_
          have g := ih (k + 1) (some (.int ((factsF (Sv (h_i h) o) p) l))) (some (.int (nI v))) (by omega)
          rw [g0] at g
          simp only [rstep, e1, e2, e3] at g
          first | rw [decide_eq_true c156] at g | rw [decide_eq_false c156] at g
          try simp only [Bool.not_true, Bool.not_false] at g
          simp only [b2] at g
          exact g
    · refine r_iload (pc := 8) X dX1_rain_8 rfl ?_
      refine r_aload_n (pc := 10) X dX1_rain_10 rfl ?_
      refine r_getr (pc := 11) X dX1_rain_11 tf_1_7 rfl he hc ?_
      refine r_alen (pc := 14) X dX1_rain_14 hcc (by decide) rfl ?_
      refine r_icmp_geN (pc := 15) X dX1_rain_15 (tgt := 239) (by decide) (by omega) (by omega) (fun c15 => ?_) (fun c15 => ?_)
      · exact absurd c15 (by omega)
      · refine r_aload_n (pc := 18) X dX1_rain_18 rfl ?_
        refine r_aload_n (pc := 19) X dX1_rain_19 rfl ?_
        refine r_getr (pc := 20) X dX1_rain_20 tf_1_7 rfl he hc ?_
        refine r_iload (pc := 23) X dX1_rain_23 rfl ?_
        refine r_iald (pc := 25) X dX1_rain_25 hcc rfl (by omega) (by omega) ec ?_
        refine r_bipush (pc := 26) (v := (nI 8)) X dX1_rain_26 (by decide) ?_
        refine r_ishr (pc := 28) X dX1_rain_28 ?_
        refine r_sipush (pc := 29) (v := (nI 255)) X dX1_rain_29 (by decide) ?_
        refine r_iand (pc := 32) X dX1_rain_32 ?_
        refine r_top ((cd_l hlt).trans (by rw [e2])) ?_
        refine r_iload_n (pc := 33) X dX1_rain_33 rfl ?_
        refine r_c0_2P (pc := 34) X rfl dX1_rain_34 tc_1_20 mm_X5_fact S.c0 rfl rfl (e_fact d S hp hl) (Nat.le_of_ble_eq_true rfl) ?_
        refine r_istore (pc := 37) X dX1_rain_37 (Nat.le_of_ble_eq_true rfl) ?_
        refine r_aload_n (pc := 39) X dX1_rain_39 rfl ?_
        refine r_getr (pc := 40) X dX1_rain_40 tf_1_7 rfl he hc ?_
        refine r_iload (pc := 43) X dX1_rain_43 rfl ?_
        refine r_iald (pc := 45) X dX1_rain_45 hcc rfl (by omega) (by omega) ec ?_
        refine r_sipush (pc := 46) (v := (nI 255)) X dX1_rain_46 (by decide) ?_
        refine r_iand (pc := 49) X dX1_rain_49 ?_
        refine r_top ((cd_v hlt).trans (by rw [e3])) ?_
        refine r_istore (pc := 50) X dX1_rain_50 (Nat.le_of_ble_eq_true rfl) ?_
        refine r_aload_n (pc := 52) X dX1_rain_52 rfl ?_
        refine r_getr (pc := 53) X dX1_rain_53 tf_1_7 rfl he hc ?_
        refine r_iload (pc := 56) X dX1_rain_56 rfl ?_
        refine r_iald (pc := 58) X dX1_rain_58 hcc rfl (by omega) (by omega) ec ?_
        refine r_bipush (pc := 59) (v := (nI 16)) X dX1_rain_59 (by decide) ?_
        refine r_ishr (pc := 61) X dX1_rain_61 ?_
        refine r_top ((cd_s hlt).trans (by rw [e1])) ?_
        refine r_tableIn (pc := 62) (tgt := 170) X dX1_rain_62 (by rw [(rfl : nI 3 = nI 3)]; decide) (by rw [(rfl : nI 3 = nI 3)]; decide) (by rw [(rfl : nI 3 = nI 3)]; rfl) (by decide) ?_
        refine r_iload (pc := 170) X dX1_rain_170 rfl ?_
        refine r_iconst (pc := 172) (v := (nI 1)) X dX1_rain_172 (by decide) ?_
        refine r_ishr (pc := 173) X dX1_rain_173 ?_
        refine r_iload (pc := 174) X dX1_rain_174 rfl ?_
        refine r_bipush (pc := 176) (v := (-2)) X dX1_rain_176 (by decide) ?_
        refine r_ior (pc := 178) X dX1_rain_178 ?_
        refine r_iand (pc := 179) X dX1_rain_179 ?_
        refine r_istore (pc := 180) X dX1_rain_180 (Nat.le_of_ble_eq_true rfl) ?_
        refine r_goto (pc := 182) X dX1_rain_182 (tgt := 233) (by decide) ?_
        refine r_iinc (pc := 233) X dX1_rain_233 rfl (by first | exact nI_i1 _ | rfl) ?_
        refine r_goto (pc := 236) X dX1_rain_236 (tgt := 8) (by decide) ?_
        have g := ih (k + 1) (some (.int ((factsF (Sv (h_i h) o) p) l))) (some (.int (nI v))) (by omega)
        rw [g0] at g
        simp only [rstep, e1, e2, e3] at g
        exact g
    · refine r_iload (pc := 8) X dX1_rain_8 rfl ?_
      refine r_aload_n (pc := 10) X dX1_rain_10 rfl ?_
      refine r_getr (pc := 11) X dX1_rain_11 tf_1_7 rfl he hc ?_
      refine r_alen (pc := 14) X dX1_rain_14 hcc (by decide) rfl ?_
      refine r_icmp_geN (pc := 15) X dX1_rain_15 (tgt := 239) (by decide) (by omega) (by omega) (fun c15 => ?_) (fun c15 => ?_)
      · exact absurd c15 (by omega)
      · refine r_aload_n (pc := 18) X dX1_rain_18 rfl ?_
        refine r_aload_n (pc := 19) X dX1_rain_19 rfl ?_
        refine r_getr (pc := 20) X dX1_rain_20 tf_1_7 rfl he hc ?_
        refine r_iload (pc := 23) X dX1_rain_23 rfl ?_
        refine r_iald (pc := 25) X dX1_rain_25 hcc rfl (by omega) (by omega) ec ?_
        refine r_bipush (pc := 26) (v := (nI 8)) X dX1_rain_26 (by decide) ?_
        refine r_ishr (pc := 28) X dX1_rain_28 ?_
        refine r_sipush (pc := 29) (v := (nI 255)) X dX1_rain_29 (by decide) ?_
        refine r_iand (pc := 32) X dX1_rain_32 ?_
        refine r_top ((cd_l hlt).trans (by rw [e2])) ?_
        refine r_iload_n (pc := 33) X dX1_rain_33 rfl ?_
        refine r_c0_2P (pc := 34) X rfl dX1_rain_34 tc_1_20 mm_X5_fact S.c0 rfl rfl (e_fact d S hp hl) (Nat.le_of_ble_eq_true rfl) ?_
        refine r_istore (pc := 37) X dX1_rain_37 (Nat.le_of_ble_eq_true rfl) ?_
        refine r_aload_n (pc := 39) X dX1_rain_39 rfl ?_
        refine r_getr (pc := 40) X dX1_rain_40 tf_1_7 rfl he hc ?_
        refine r_iload (pc := 43) X dX1_rain_43 rfl ?_
        refine r_iald (pc := 45) X dX1_rain_45 hcc rfl (by omega) (by omega) ec ?_
        refine r_sipush (pc := 46) (v := (nI 255)) X dX1_rain_46 (by decide) ?_
        refine r_iand (pc := 49) X dX1_rain_49 ?_
        refine r_top ((cd_v hlt).trans (by rw [e3])) ?_
        refine r_istore (pc := 50) X dX1_rain_50 (Nat.le_of_ble_eq_true rfl) ?_
        refine r_aload_n (pc := 52) X dX1_rain_52 rfl ?_
        refine r_getr (pc := 53) X dX1_rain_53 tf_1_7 rfl he hc ?_
        refine r_iload (pc := 56) X dX1_rain_56 rfl ?_
        refine r_iald (pc := 58) X dX1_rain_58 hcc rfl (by omega) (by omega) ec ?_
        refine r_bipush (pc := 59) (v := (nI 16)) X dX1_rain_59 (by decide) ?_
        refine r_ishr (pc := 61) X dX1_rain_61 ?_
        refine r_top ((cd_s hlt).trans (by rw [e1])) ?_
        refine r_tableIn (pc := 62) (tgt := 185) X dX1_rain_62 (by rw [(rfl : nI 4 = nI 4)]; decide) (by rw [(rfl : nI 4 = nI 4)]; decide) (by rw [(rfl : nI 4 = nI 4)]; rfl) (by decide) ?_
        refine r_iload (pc := 185) X dX1_rain_185 rfl ?_
        refine r_iconst (pc := 187) (v := (nI 1)) X dX1_rain_187 (by decide) ?_
        refine r_ishr (pc := 188) X dX1_rain_188 ?_
        refine r_iload (pc := 189) X dX1_rain_189 rfl ?_
        refine r_iconst (pc := 191) (v := (nI 1)) X dX1_rain_191 (by decide) ?_
        refine r_iand (pc := 192) X dX1_rain_192 ?_
        refine r_ior (pc := 193) X dX1_rain_193 ?_
        refine r_istore (pc := 194) X dX1_rain_194 (Nat.le_of_ble_eq_true rfl) ?_
        refine r_goto (pc := 196) X dX1_rain_196 (tgt := 233) (by decide) ?_
        refine r_iinc (pc := 233) X dX1_rain_233 rfl (by first | exact nI_i1 _ | rfl) ?_
        refine r_goto (pc := 236) X dX1_rain_236 (tgt := 8) (by decide) ?_
        have g := ih (k + 1) (some (.int ((factsF (Sv (h_i h) o) p) l))) (some (.int (nI v))) (by omega)
        rw [g0] at g
        simp only [rstep, e1, e2, e3] at g
        exact g
    · refine r_iload (pc := 8) X dX1_rain_8 rfl ?_
      refine r_aload_n (pc := 10) X dX1_rain_10 rfl ?_
      refine r_getr (pc := 11) X dX1_rain_11 tf_1_7 rfl he hc ?_
      refine r_alen (pc := 14) X dX1_rain_14 hcc (by decide) rfl ?_
      refine r_icmp_geN (pc := 15) X dX1_rain_15 (tgt := 239) (by decide) (by omega) (by omega) (fun c15 => ?_) (fun c15 => ?_)
      · exact absurd c15 (by omega)
      · refine r_aload_n (pc := 18) X dX1_rain_18 rfl ?_
        refine r_aload_n (pc := 19) X dX1_rain_19 rfl ?_
        refine r_getr (pc := 20) X dX1_rain_20 tf_1_7 rfl he hc ?_
        refine r_iload (pc := 23) X dX1_rain_23 rfl ?_
        refine r_iald (pc := 25) X dX1_rain_25 hcc rfl (by omega) (by omega) ec ?_
        refine r_bipush (pc := 26) (v := (nI 8)) X dX1_rain_26 (by decide) ?_
        refine r_ishr (pc := 28) X dX1_rain_28 ?_
        refine r_sipush (pc := 29) (v := (nI 255)) X dX1_rain_29 (by decide) ?_
        refine r_iand (pc := 32) X dX1_rain_32 ?_
        refine r_top ((cd_l hlt).trans (by rw [e2])) ?_
        refine r_iload_n (pc := 33) X dX1_rain_33 rfl ?_
        refine r_c0_2P (pc := 34) X rfl dX1_rain_34 tc_1_20 mm_X5_fact S.c0 rfl rfl (e_fact d S hp hl) (Nat.le_of_ble_eq_true rfl) ?_
        refine r_istore (pc := 37) X dX1_rain_37 (Nat.le_of_ble_eq_true rfl) ?_
        refine r_aload_n (pc := 39) X dX1_rain_39 rfl ?_
        refine r_getr (pc := 40) X dX1_rain_40 tf_1_7 rfl he hc ?_
        refine r_iload (pc := 43) X dX1_rain_43 rfl ?_
        refine r_iald (pc := 45) X dX1_rain_45 hcc rfl (by omega) (by omega) ec ?_
        refine r_sipush (pc := 46) (v := (nI 255)) X dX1_rain_46 (by decide) ?_
        refine r_iand (pc := 49) X dX1_rain_49 ?_
        refine r_top ((cd_v hlt).trans (by rw [e3])) ?_
        refine r_istore (pc := 50) X dX1_rain_50 (Nat.le_of_ble_eq_true rfl) ?_
        refine r_aload_n (pc := 52) X dX1_rain_52 rfl ?_
        refine r_getr (pc := 53) X dX1_rain_53 tf_1_7 rfl he hc ?_
        refine r_iload (pc := 56) X dX1_rain_56 rfl ?_
        refine r_iald (pc := 58) X dX1_rain_58 hcc rfl (by omega) (by omega) ec ?_
        refine r_bipush (pc := 59) (v := (nI 16)) X dX1_rain_59 (by decide) ?_
        refine r_ishr (pc := 61) X dX1_rain_61 ?_
        refine r_top ((cd_s hlt).trans (by rw [e1])) ?_
        refine r_tableIn (pc := 62) (tgt := 199) X dX1_rain_62 (by rw [(rfl : nI 5 = nI 5)]; decide) (by rw [(rfl : nI 5 = nI 5)]; decide) (by rw [(rfl : nI 5 = nI 5)]; rfl) (by decide) ?_
        refine r_iload (pc := 199) X dX1_rain_199 rfl ?_
        refine r_iconst (pc := 201) (v := (nI 1)) X dX1_rain_201 (by decide) ?_
        refine r_ixor (pc := 202) X dX1_rain_202 ?_
        refine r_istore (pc := 203) X dX1_rain_203 (Nat.le_of_ble_eq_true rfl) ?_
        refine r_goto (pc := 205) X dX1_rain_205 (tgt := 233) (by decide) ?_
        refine r_iinc (pc := 233) X dX1_rain_233 rfl (by first | exact nI_i1 _ | rfl) ?_
        refine r_goto (pc := 236) X dX1_rain_236 (tgt := 8) (by decide) ?_
        have g := ih (k + 1) (some (.int ((factsF (Sv (h_i h) o) p) l))) (some (.int (nI v))) (by omega)
        rw [g0] at g
        simp only [rstep, e1, e2, e3] at g
        exact g
    · refine r_iload (pc := 8) X dX1_rain_8 rfl ?_
      refine r_aload_n (pc := 10) X dX1_rain_10 rfl ?_
      refine r_getr (pc := 11) X dX1_rain_11 tf_1_7 rfl he hc ?_
      refine r_alen (pc := 14) X dX1_rain_14 hcc (by decide) rfl ?_
      refine r_icmp_geN (pc := 15) X dX1_rain_15 (tgt := 239) (by decide) (by omega) (by omega) (fun c15 => ?_) (fun c15 => ?_)
      · exact absurd c15 (by omega)
      · refine r_aload_n (pc := 18) X dX1_rain_18 rfl ?_
        refine r_aload_n (pc := 19) X dX1_rain_19 rfl ?_
        refine r_getr (pc := 20) X dX1_rain_20 tf_1_7 rfl he hc ?_
        refine r_iload (pc := 23) X dX1_rain_23 rfl ?_
        refine r_iald (pc := 25) X dX1_rain_25 hcc rfl (by omega) (by omega) ec ?_
        refine r_bipush (pc := 26) (v := (nI 8)) X dX1_rain_26 (by decide) ?_
        refine r_ishr (pc := 28) X dX1_rain_28 ?_
        refine r_sipush (pc := 29) (v := (nI 255)) X dX1_rain_29 (by decide) ?_
        refine r_iand (pc := 32) X dX1_rain_32 ?_
        refine r_top ((cd_l hlt).trans (by rw [e2])) ?_
        refine r_iload_n (pc := 33) X dX1_rain_33 rfl ?_
        refine r_c0_2P (pc := 34) X rfl dX1_rain_34 tc_1_20 mm_X5_fact S.c0 rfl rfl (e_fact d S hp hl) (Nat.le_of_ble_eq_true rfl) ?_
        refine r_istore (pc := 37) X dX1_rain_37 (Nat.le_of_ble_eq_true rfl) ?_
        refine r_aload_n (pc := 39) X dX1_rain_39 rfl ?_
        refine r_getr (pc := 40) X dX1_rain_40 tf_1_7 rfl he hc ?_
        refine r_iload (pc := 43) X dX1_rain_43 rfl ?_
        refine r_iald (pc := 45) X dX1_rain_45 hcc rfl (by omega) (by omega) ec ?_
        refine r_sipush (pc := 46) (v := (nI 255)) X dX1_rain_46 (by decide) ?_
        refine r_iand (pc := 49) X dX1_rain_49 ?_
        refine r_top ((cd_v hlt).trans (by rw [e3])) ?_
        refine r_istore (pc := 50) X dX1_rain_50 (Nat.le_of_ble_eq_true rfl) ?_
        refine r_aload_n (pc := 52) X dX1_rain_52 rfl ?_
        refine r_getr (pc := 53) X dX1_rain_53 tf_1_7 rfl he hc ?_
        refine r_iload (pc := 56) X dX1_rain_56 rfl ?_
        refine r_iald (pc := 58) X dX1_rain_58 hcc rfl (by omega) (by omega) ec ?_
        refine r_bipush (pc := 59) (v := (nI 16)) X dX1_rain_59 (by decide) ?_
        refine r_ishr (pc := 61) X dX1_rain_61 ?_
        refine r_top ((cd_s hlt).trans (by rw [e1])) ?_
        refine r_tableIn (pc := 62) (tgt := 208) X dX1_rain_62 (by rw [(rfl : nI 6 = nI 6)]; decide) (by rw [(rfl : nI 6 = nI 6)]; decide) (by rw [(rfl : nI 6 = nI 6)]; rfl) (by decide) ?_
        refine r_iload_n (pc := 208) X dX1_rain_208 rfl ?_
        refine r_iload (pc := 209) X dX1_rain_209 rfl ?_
        refine r_iload (pc := 211) X dX1_rain_211 rfl ?_
        refine r_imul (pc := 213) X dX1_rain_213 ?_
        refine r_iadd (pc := 214) X dX1_rain_214 ?_
        refine r_istore_n (pc := 215) X dX1_rain_215 (Nat.le_of_ble_eq_true rfl) ?_
        refine r_iconst (pc := 216) (v := (nI 0)) X dX1_rain_216 (by decide) ?_
        refine r_istore (pc := 217) X dX1_rain_217 (Nat.le_of_ble_eq_true rfl) ?_
        refine r_goto (pc := 219) X dX1_rain_219 (tgt := 233) (by decide) ?_
        refine r_iinc (pc := 233) X dX1_rain_233 rfl (by first | exact nI_i1 _ | rfl) ?_
        refine r_goto (pc := 236) X dX1_rain_236 (tgt := 8) (by decide) ?_
        have g := ih (k + 1) (some (.int ((factsF (Sv (h_i h) o) p) l))) (some (.int (nI v))) (by omega)
        rw [g0] at g
        simp only [rstep, e1, e2, e3] at g
        exact g
    · refine r_iload (pc := 8) X dX1_rain_8 rfl ?_
      refine r_aload_n (pc := 10) X dX1_rain_10 rfl ?_
      refine r_getr (pc := 11) X dX1_rain_11 tf_1_7 rfl he hc ?_
      refine r_alen (pc := 14) X dX1_rain_14 hcc (by decide) rfl ?_
      refine r_icmp_geN (pc := 15) X dX1_rain_15 (tgt := 239) (by decide) (by omega) (by omega) (fun c15 => ?_) (fun c15 => ?_)
      · exact absurd c15 (by omega)
      · refine r_aload_n (pc := 18) X dX1_rain_18 rfl ?_
        refine r_aload_n (pc := 19) X dX1_rain_19 rfl ?_
        refine r_getr (pc := 20) X dX1_rain_20 tf_1_7 rfl he hc ?_
        refine r_iload (pc := 23) X dX1_rain_23 rfl ?_
        refine r_iald (pc := 25) X dX1_rain_25 hcc rfl (by omega) (by omega) ec ?_
        refine r_bipush (pc := 26) (v := (nI 8)) X dX1_rain_26 (by decide) ?_
        refine r_ishr (pc := 28) X dX1_rain_28 ?_
        refine r_sipush (pc := 29) (v := (nI 255)) X dX1_rain_29 (by decide) ?_
        refine r_iand (pc := 32) X dX1_rain_32 ?_
        refine r_top ((cd_l hlt).trans (by rw [e2])) ?_
        refine r_iload_n (pc := 33) X dX1_rain_33 rfl ?_
        refine r_c0_2P (pc := 34) X rfl dX1_rain_34 tc_1_20 mm_X5_fact S.c0 rfl rfl (e_fact d S hp hl) (Nat.le_of_ble_eq_true rfl) ?_
        refine r_istore (pc := 37) X dX1_rain_37 (Nat.le_of_ble_eq_true rfl) ?_
        refine r_aload_n (pc := 39) X dX1_rain_39 rfl ?_
        refine r_getr (pc := 40) X dX1_rain_40 tf_1_7 rfl he hc ?_
        refine r_iload (pc := 43) X dX1_rain_43 rfl ?_
        refine r_iald (pc := 45) X dX1_rain_45 hcc rfl (by omega) (by omega) ec ?_
        refine r_sipush (pc := 46) (v := (nI 255)) X dX1_rain_46 (by decide) ?_
        refine r_iand (pc := 49) X dX1_rain_49 ?_
        refine r_top ((cd_v hlt).trans (by rw [e3])) ?_
        refine r_istore (pc := 50) X dX1_rain_50 (Nat.le_of_ble_eq_true rfl) ?_
        refine r_aload_n (pc := 52) X dX1_rain_52 rfl ?_
        refine r_getr (pc := 53) X dX1_rain_53 tf_1_7 rfl he hc ?_
        refine r_iload (pc := 56) X dX1_rain_56 rfl ?_
        refine r_iald (pc := 58) X dX1_rain_58 hcc rfl (by omega) (by omega) ec ?_
        refine r_bipush (pc := 59) (v := (nI 16)) X dX1_rain_59 (by decide) ?_
        refine r_ishr (pc := 61) X dX1_rain_61 ?_
        refine r_top ((cd_s hlt).trans (by rw [e1])) ?_
        refine r_tableOut (pc := 62) (tgt := 222) X dX1_rain_62 (Or.inr (by decide)) (by decide) ?_
        refine r_iload_n (pc := 222) X dX1_rain_222 rfl ?_
        refine r_iload (pc := 223) X dX1_rain_223 rfl ?_
        refine r_iload (pc := 225) X dX1_rain_225 rfl ?_
        refine r_imul (pc := 227) X dX1_rain_227 ?_
        refine r_isub (pc := 228) X dX1_rain_228 ?_
        refine r_istore_n (pc := 229) X dX1_rain_229 (Nat.le_of_ble_eq_true rfl) ?_
        refine r_iconst (pc := 230) (v := (nI 0)) X dX1_rain_230 (by decide) ?_
        refine r_istore (pc := 231) X dX1_rain_231 (Nat.le_of_ble_eq_true rfl) ?_
        refine r_iinc (pc := 233) X dX1_rain_233 rfl (by first | exact nI_i1 _ | rfl) ?_
        refine r_goto (pc := 236) X dX1_rain_236 (tgt := 8) (by decide) ?_
        have g := ih (k + 1) (some (.int ((factsF (Sv (h_i h) o) p) l))) (some (.int (nI v))) (by omega)
        rw [g0] at g
        simp only [rstep, e1, e2, e3] at g
        exact g
set_option maxRecDepth 10000 in
set_option maxHeartbeats 4000000 in
theorem e_evrain : ∀ (d : Nat) {h : hp_T} {e c n o p : Nat} (he : ck h e 0 1) (hc : h_r h e 0 = some c) (hcc : ck h c 1 n) (hn : n ≤ 100) (hok : okC n (h_i h c)) (S : St h o) (hp : p < 6), Ep (d + 1) nX1_rain [.ref e, .ref o, .int (nI p)] h (.int (rainC n (h_i h c) (factsF (Sv (h_i h) o) p))) := by
  intro d h e c n o p he hc hcc hn hok S hp
  refine Ex.of mm_X1_rain (Nat.le_of_ble_eq_true rfl) fun w κ X hk hnm => ?_
  refine r_iconst (pc := 0) (v := (nI 0)) X dX1_rain_0 (by decide) ?_
  refine r_istore_n (pc := 1) X dX1_rain_1 (Nat.le_of_ble_eq_true rfl) ?_
  refine r_iconst (pc := 2) (v := (nI 0)) X dX1_rain_2 (by decide) ?_
  refine r_istore (pc := 3) X dX1_rain_3 (Nat.le_of_ble_eq_true rfl) ?_
  refine r_iconst (pc := 5) (v := (nI 0)) X dX1_rain_5 (by decide) ?_
  refine r_istore (pc := 6) X dX1_rain_6 (Nat.le_of_ble_eq_true rfl) ?_
  exact l_evrain d he hc hcc hn hok S hp X ⟨⟨rfl, rfl⟩, rfl⟩ n 0 _ _ (Nat.zero_add _)
set_option maxRecDepth 10000 in
set_option maxHeartbeats 4000000 in
theorem e_rain : ∀ (d : Nat) {h : hp_T} {M : Mem} {o p : Nat} {E : EV} (S : St h o) (hE : evC h M (h_r h o 11) E) (hD : evD h o (h_r h o 11)) (hp : p < 6), Ei (d + 2) nX5_rain [.ref o, .int (nI p)] (wi h M) (fun r M1 => r = rainF E (Sv M o) p ∧ pS M o (Sv M o) M1) := by
  intro d h M o p E S hE hD hp
  refine Ex.of mm_X5_rain (Nat.le_of_ble_eq_true rfl) fun w κ X hk hnm => ?_
  rcases hE with ⟨hr, rfl⟩ | ⟨e, c, n, hr, he, hc, hcc, hn, hok, rfl⟩
  · refine r_aload_n (pc := 0) X dX5_rain_0 rfl ?_
    refine r_getn (pc := 1) X dX5_rain_1 tf_5_52 rfl S.c0 hr ?_
    refine r_ifnonnullN (pc := 4) X dX5_rain_4 ?_
    refine r_iconst (pc := 7) (v := (nI 0)) X dX5_rain_7 (by decide) ?_
    refine r_goto (pc := 8) X dX5_rain_8 (tgt := 20) (by decide) ?_
    refine r_iret (pc := 20) X dX5_rain_20 rfl rfl ?_
    exact ⟨⟨_, _, rfl, rfl, rfl, pS.rf⟩, rfl⟩
  · refine r_aload_n (pc := 0) X dX5_rain_0 rfl ?_
    refine r_getr (pc := 1) X dX5_rain_1 tf_5_52 rfl S.c0 hr ?_
    refine r_ifnonnull (pc := 4) X dX5_rain_4 (tgt := 11) (by decide) he.2.1 ?_
    refine r_aload_n (pc := 11) X dX5_rain_11 rfl ?_
    refine r_getr (pc := 12) X dX5_rain_12 tf_5_52 rfl S.c0 hr ?_
    refine r_aload_n (pc := 15) X dX5_rain_15 rfl ?_
    refine r_iload_n (pc := 16) X dX5_rain_16 rfl ?_
    refine r_c0_2P (pc := 17) X rfl dX5_rain_17 tc_5_68 mm_X1_rain he rfl rfl (e_evrain d he hc hcc hn hok S hp) (Nat.le_of_ble_eq_true rfl) ?_
    refine r_iret (pc := 20) X dX5_rain_20 rfl rfl ?_
    exact ⟨⟨_, _, rfl, rfl, rfl, pS.rf⟩, rfl⟩
set_option maxRecDepth 10000 in
set_option maxHeartbeats 4000000 in
theorem e_hand : ∀ (d : Nat) {h : hp_T} {M : Mem} {o : Nat} (x : Int32) (S : St h o), Ev d nX5_hand [.ref o, .int x] (wi h M) (fun M1 => pS M o (handF (Sv M o) x) M1) := by
  intro d h M o x S
  refine Ex.of mm_X5_hand (Nat.le_of_ble_eq_true rfl) fun w κ X hk hnm => ?_
  refine r_aload_n (pc := 0) X dX5_hand_0 rfl ?_
  refine r_iload_n (pc := 1) X dX5_hand_1 rfl ?_
  refine r_putiW (pc := 2) X dX5_hand_2 tf_5_43 rfl (Or.inl rfl) S.c0 ⟨rfl, rfl⟩ ?_
  refine r_aload_n (pc := 5) X dX5_hand_5 rfl ?_
  refine r_bipush (pc := 6) (v := (-5)) X dX5_hand_6 (by decide) ?_
  refine r_putiW (pc := 8) X dX5_hand_8 tf_5_30 rfl (Or.inl rfl) S.c0 ⟨rfl, rfl⟩ ?_
  refine r_vret (pc := 11) X dX5_hand_11 rfl ?_
  exact ⟨⟨_, rfl, rfl, (pS.rf.u0).u0⟩, rfl⟩
set_option maxRecDepth 10000 in
set_option maxHeartbeats 4000000 in
theorem e_carry : ∀ (d : Nat) {h : hp_T} {M : Mem} {o p q B : Nat} {E : EV} (S : St h o) (hE : evC h M (h_r h o 11) E) (hD : evD h o (h_r h o 11)) (hW : WF B (Sv M o)) (hp : p < 6) (hq : q < 6), Ei (d + 3) nX5_carryOrTell [.ref o, .int (nI p), .int (nI q)] (wi h M) (fun r M1 => r = (carryF E (Sv M o) p q).1 ∧ pS M o (carryF E (Sv M o) p q).2 M1) := by
  intro d h M o p q B E S hE hD hW hp hq
  refine Ex.of mm_X5_carryOrTell (Nat.le_of_ble_eq_true rfl) fun w κ X hk hnm => ?_
  refine r_aload_n (pc := 0) X dX5_carryOrTell_0 rfl ?_
  refine r_iload_n (pc := 1) X dX5_carryOrTell_1 rfl ?_
  refine r_iload_n (pc := 2) X dX5_carryOrTell_2 rfl ?_
  refine r_c0_2P (pc := 3) X rfl dX5_carryOrTell_3 tc_5_100 mm_X5_way S.c0 rfl rfl (e_way (d + 1) S hp hq) (Nat.le_of_ble_eq_true rfl) ?_
  refine r_aload_n (pc := 6) X dX5_carryOrTell_6 rfl ?_
  refine r_iload_n (pc := 7) X dX5_carryOrTell_7 rfl ?_
  refine r_c0_1P (pc := 8) X rfl dX5_carryOrTell_8 tc_5_88 mm_X5_reach S.c0 rfl rfl (e_reach (d + 1) S hE hW hp) (Nat.le_of_ble_eq_true rfl) ?_
  refine r_icmp_gt (pc := 11) X dX5_carryOrTell_11 (tgt := 45) (by decide) (fun c11 => ?_) (fun c11 => ?_)
  · refine r_aload_n (pc := 45) X dX5_carryOrTell_45 rfl ?_
    refine r_getr (pc := 46) X dX5_carryOrTell_46 tf_5_21 rfl S.c0 S.r3 ?_
    refine r_iload_n (pc := 49) X dX5_carryOrTell_49 rfl ?_
    refine r_ialdW (pc := 50) X dX5_carryOrTell_50 S.a4 rfl (by omega) (by omega) rfl ?_
    refine r_if_le (pc := 51) X dX5_carryOrTell_51 (tgt := 95) (by decide) (fun c51 => ?_) (fun c51 => ?_)
    · refine r_aload_n (pc := 95) X dX5_carryOrTell_95 rfl ?_
      refine r_iload_n (pc := 96) X dX5_carryOrTell_96 rfl ?_
      refine r_putiW (pc := 97) X dX5_carryOrTell_97 tf_5_30 rfl (Or.inl rfl) S.c0 ⟨rfl, rfl⟩ ?_
      refine r_iconst (pc := 100) (v := (nI 2)) X dX5_carryOrTell_100 (by decide) ?_
      refine r_iret (pc := 101) X dX5_carryOrTell_101 rfl rfl ?_
      have c11 : reachF E (Sv M o) p < wayF (Sv M o) p q := c11
      have c51 : Sv M o 4 p ≤ 0 := c51
      refine ⟨⟨_, _, rfl, rfl, ?_, ?_⟩, rfl⟩
      · rw [carryF, if_pos c11, if_pos c51]
      · rw [carryF, if_pos c11, if_pos c51]
        exact pS.rf.u0
    · refine r_aload_n (pc := 54) X dX5_carryOrTell_54 rfl ?_
      refine r_getr (pc := 55) X dX5_carryOrTell_55 tf_5_21 rfl S.c0 S.r3 ?_
      refine r_iload_n (pc := 58) X dX5_carryOrTell_58 rfl ?_
      refine r_dup2 (pc := 59) X dX5_carryOrTell_59 rfl rfl ?_
      refine r_ialdW (pc := 60) X dX5_carryOrTell_60 S.a4 rfl (by omega) (by omega) rfl ?_
      refine r_iconst (pc := 61) (v := (nI 1)) X dX5_carryOrTell_61 (by decide) ?_
      refine r_isub (pc := 62) X dX5_carryOrTell_62 ?_
      refine r_iastW (pc := 63) X dX5_carryOrTell_63 S.a4 rfl (by omega) (by omega) ?_
      refine r_aload_n (pc := 64) X dX5_carryOrTell_64 rfl ?_
      refine r_getr (pc := 65) X dX5_carryOrTell_65 tf_5_24 rfl S.c0 S.r4 ?_
      refine r_iload_n (pc := 68) X dX5_carryOrTell_68 rfl ?_
      refine r_dup2 (pc := 69) X dX5_carryOrTell_69 rfl rfl ?_
      refine r_ialdW (pc := 70) X dX5_carryOrTell_70 S.a5 rfl (by omega) (by omega) (by rw [mU_ne (show o + 5 ≠ o + 4 by omega)]) ?_
      refine r_iconst (pc := 71) (v := (nI 1)) X dX5_carryOrTell_71 (by decide) ?_
      refine r_iadd (pc := 72) X dX5_carryOrTell_72 ?_
      refine r_iastW (pc := 73) X dX5_carryOrTell_73 S.a5 rfl (by omega) (by omega) ?_
      refine r_aload_n (pc := 74) X dX5_carryOrTell_74 rfl ?_
      refine r_sipush (pc := 75) (v := (nI 999)) X dX5_carryOrTell_75 (by decide) ?_
      refine r_aload_n (pc := 78) X dX5_carryOrTell_78 rfl ?_
      refine r_getiW (pc := 79) X dX5_carryOrTell_79 tf_5_46 rfl S.c0 (by rw [mU_ne (show o ≠ o + 5 by omega), mU_ne (show o ≠ o + 4 by omega)]) ?_
      refine r_aload_n (pc := 82) X dX5_carryOrTell_82 rfl ?_
      refine r_c0_0P (pc := 83) X rfl dX5_carryOrTell_83 tc_5_118 mm_X5_cost S.c0 rfl rfl (e_cost (d + 2) S (evS hE hD (pS.uf (by omega) (pS.uf (by omega) pS.rf)).2)) (Nat.le_of_ble_eq_true rfl) ?_
      refine r_iadd (pc := 86) X dX5_carryOrTell_86 ?_
      refine r_min (pc := 87) X rfl dX5_carryOrTell_87 tx_5_115 (Nat.le_of_ble_eq_true rfl) ?_
      refine r_putiW (pc := 90) X dX5_carryOrTell_90 tf_5_46 rfl (Or.inl rfl) S.c0 ⟨rfl, rfl⟩ ?_
      refine r_iconst (pc := 93) (v := (nI 1)) X dX5_carryOrTell_93 (by decide) ?_
      refine r_iret (pc := 94) X dX5_carryOrTell_94 rfl rfl ?_
      have c11 : reachF E (Sv M o) p < wayF (Sv M o) p q := c11
      have c51 : ¬ Sv M o 4 p ≤ 0 := c51
      refine ⟨⟨_, _, rfl, rfl, ?_, ?_⟩, rfl⟩
      · rw [carryF, if_pos c11, if_neg c51]
      · rw [carryF, if_pos c11, if_neg c51]
        exact ((pS.rf.uf (by omega)).uf (by omega)).u0
  · refine r_aload_n (pc := 14) X dX5_carryOrTell_14 rfl ?_
    refine r_iconst (pc := 15) (v := (nI 0)) X dX5_carryOrTell_15 (by decide) ?_
    refine r_sipush (pc := 16) (v := (nI 999)) X dX5_carryOrTell_16 (by decide) ?_
    refine r_aload_n (pc := 19) X dX5_carryOrTell_19 rfl ?_
    refine r_getiW (pc := 20) X dX5_carryOrTell_20 tf_5_46 rfl S.c0 rfl ?_
    refine r_aload_n (pc := 23) X dX5_carryOrTell_23 rfl ?_
    refine r_iload_n (pc := 24) X dX5_carryOrTell_24 rfl ?_
    refine r_c0_1IW (pc := 25) X rfl dX5_carryOrTell_25 tc_5_113 mm_X5_rain S.c0 rfl rfl (e_rain d S hE hD hp) (Nat.le_of_ble_eq_true rfl) (fun r25 M25 q25 => ?_)
    refine r_iadd (pc := 28) X dX5_carryOrTell_28 ?_
    refine r_min (pc := 29) X rfl dX5_carryOrTell_29 tx_5_115 (Nat.le_of_ble_eq_true rfl) ?_
    refine r_max (pc := 32) X rfl dX5_carryOrTell_32 tx_5_74 (Nat.le_of_ble_eq_true rfl) ?_
    refine r_putiW (pc := 35) X dX5_carryOrTell_35 tf_5_46 rfl (Or.inl rfl) S.c0 ⟨rfl, rfl⟩ ?_
    refine r_aload_n (pc := 38) X dX5_carryOrTell_38 rfl ?_
    refine r_iload_n (pc := 39) X dX5_carryOrTell_39 rfl ?_
    refine r_putiW (pc := 40) X dX5_carryOrTell_40 tf_5_43 rfl (Or.inl rfl) S.c0 ⟨rfl, rfl⟩ ?_
    refine r_iconst (pc := 43) (v := (nI 0)) X dX5_carryOrTell_43 (by decide) ?_
    refine r_iret (pc := 44) X dX5_carryOrTell_44 rfl rfl ?_
    have c11 : ¬ reachF E (Sv M o) p < wayF (Sv M o) p q := c11
    refine ⟨⟨_, _, rfl, rfl, ?_, ?_⟩, rfl⟩
    · rw [carryF, if_neg c11]
    · rw [carryF, if_neg c11]
      exact (show mx (nI 0) (mn (nI 999) (M o 8 + r25)) = mx (nI 0) (mn (nI 999) ((Sv M o) 0 8 + rainF E (Sv M o) p)) by rw [q25.1]; rfl) ▸ (q25.2.u0).u0
