/-! the street's own methods: what is changed -/
theorem cd_s {c : Nat} (hc : c < 2 ^ 31) : nI c >>> (nI 16 &&& 31) = nI (c / 65536) := pk_shrN hc _ 16 (by decide)
theorem cd_l {c : Nat} (hc : c < 2 ^ 31) : (nI c >>> (nI 8 &&& 31)) &&& nI 255 = nI (c / 256 % 256) := by
  rw [pk_shrN hc _ 8 (by decide), pk_andN (by omega) 8 (by decide)]
theorem cd_v {c : Nat} (hc : c < 2 ^ 31) : nI c &&& nI 255 = nI (c % 256) := pk_andN (by omega) 8 (by decide)
theorem rloop_s {cs f : Nat → Int32} {k c : Nat} (h : cs k = nI c) (hc : c < 2 ^ 31) : rloop cs f (k + 1) = rstep f c (rloop cs f k) := by
  rw [rloop, h, nI_clamp hc]
theorem rstep_congr {f g : Nat → Int32} {c : Nat} (h : f (c / 256 % 256) = g (c / 256 % 256)) (x : Int32 × Int32) : rstep f c x = rstep g c x := by
  unfold rstep
  rw [h]
theorem rloop_congr {cs f g : Nat → Int32} {n : Nat} (hok : okC n cs) (h : ∀ i, i < 6 → f i = g i) : ∀ k, k ≤ n → rloop cs f k = rloop cs g k := by
  intro k
  induction k with
  | zero => intro _; rfl
  | succ k ih =>
    intro hk
    obtain ⟨s, l, v, hs, hl, hv, e⟩ := hok k (by omega)
    rw [rloop_s e (by omega), rloop_s e (by omega), ih (by omega)]
    exact rstep_congr (h _ (by omega)) _
theorem rain_eq {M : Mem} {V : VT} {c n p : Nat} {x y : Int32} {A F : Nat → Int32} (hA : A = M c) (hF : ∀ i, i < 6 → F i = factsF V p i) (hok : okC n (M c)) : rainC n A F = rainF (x, y, rainC n (M c)) V p := by
  subst hA
  unfold rainF rainC
  exact congrArg Prod.snd (rloop_congr hok hF n (Nat.le_refl _))
def handF (V : VT) (x : Int32) : VT := vU (vU V 0 7 x) 0 10 (-5)
/-- an evening's cells lie outside a street -/
def evD (h : hp_T) (o : Nat) (r : Option Nat) : Prop := ∀ e, r = some e → (e < o ∨ o + 7 < e) ∧ ∀ c, h_r h e 0 = some c → (c < o ∨ o + 7 < c)
theorem evS {h : hp_T} {M M1 : Mem} {o : Nat} {r : Option Nat} {E : EV} (hE : evC h M r E) (hD : evD h o r) (hk : ∀ b, (b < o ∨ o + 7 < b) → M1 b = M b) : evC h M1 r E :=
  hE.kept (fun e he => hk e (hD e he).1) (fun e c he hc => hk c ((hD e he).2 c hc))
set_option maxRecDepth 10000 in
set_option maxHeartbeats 4000000 in
theorem l_evrain : ∀ (d : Nat) {h : hp_T} {e c n fx : Nat} (he : ck h e 0 1) (hc : h_r h e 0 = some c) (hcc : ck h c 1 n) (hn : n ≤ 100) (hok : okC n (h_i h c)) (hf : ck h fx 1 6) {w : wc_T} {κ : cx_T} {Φ : Option Value → hp_T → Prop} (X : CX w κ d 1 cX1_rain 7 (some .int) Φ) (hΦ : Φ (some (.int (rainC n (h_i h c) (h_i h fx)))) h),
    ∀ (m k : Nat) (u1 u2 : Option Value), k + m = n → GG w κ 7 [some (.ref e), some (.ref fx), some (.int (rloop (h_i h c) (h_i h fx) k).2), some (.int (rloop (h_i h c) (h_i h fx) k).1), some (.int (nI k)), u1, u2] [] h := by
  intro d h e c n fx he hc hcc hn hok hf w κ Φ X hΦ m
  induction m with
  | zero =>
    intro k u1 u2 hk
    have hkn : k = n := by omega
    subst hkn
    refine r_iload (pc := 7) X dX1_rain_7 rfl ?_
    refine r_aload_n (pc := 9) X dX1_rain_9 rfl ?_
    refine r_getr (pc := 10) X dX1_rain_10 tf_1_7 rfl he hc ?_
    refine r_alen (pc := 13) X dX1_rain_13 hcc (by decide) rfl ?_
    refine r_icmp_geN (pc := 14) X dX1_rain_14 (tgt := 217) (by decide) (by omega) (by omega) (fun c14 => ?_) (fun c14 => ?_)
    · refine r_iload_n (pc := 217) X dX1_rain_217 rfl ?_
      refine r_iret (pc := 218) X dX1_rain_218 rfl rfl ?_
      exact hΦ
    · exact absurd (Nat.le_refl _) c14
  | succ m ih =>
    intro k u1 u2 hk
    obtain ⟨s, l, v, hs, hl, hv, ec⟩ := hok k (by omega)
    obtain ⟨cc0, hcc0⟩ : ∃ z, z = s * 65536 + l * 256 + v := ⟨_, rfl⟩
    rw [← hcc0] at ec
    have hlt : cc0 < 2 ^ 31 := by omega
    have e1 : cc0 / 65536 = s := by omega
    have e2 : cc0 / 256 % 256 = l := by omega
    have e3 : cc0 % 256 = v := by omega
    have g0 := rloop_s (f := h_i h fx) ec hlt
    rcases (show s = 0 ∨ s = 1 ∨ s = 2 ∨ s = 3 ∨ s = 4 ∨ s = 5 ∨ s = 6 ∨ s = 7 by omega) with rfl | rfl | rfl | rfl | rfl | rfl | rfl | rfl
    · refine r_iload (pc := 7) X dX1_rain_7 rfl ?_
      refine r_aload_n (pc := 9) X dX1_rain_9 rfl ?_
      refine r_getr (pc := 10) X dX1_rain_10 tf_1_7 rfl he hc ?_
      refine r_alen (pc := 13) X dX1_rain_13 hcc (by decide) rfl ?_
      refine r_icmp_geN (pc := 14) X dX1_rain_14 (tgt := 217) (by decide) (by omega) (by omega) (fun c14 => ?_) (fun c14 => ?_)
      · exact absurd c14 (by omega)
      · refine r_aload_n (pc := 17) X dX1_rain_17 rfl ?_
        refine r_aload_n (pc := 18) X dX1_rain_18 rfl ?_
        refine r_getr (pc := 19) X dX1_rain_19 tf_1_7 rfl he hc ?_
        refine r_iload (pc := 22) X dX1_rain_22 rfl ?_
        refine r_iald (pc := 24) X dX1_rain_24 hcc rfl (by omega) (by omega) ec ?_
        refine r_bipush (pc := 25) (v := (nI 8)) X dX1_rain_25 (by decide) ?_
        refine r_ishr (pc := 27) X dX1_rain_27 ?_
        refine r_sipush (pc := 28) (v := (nI 255)) X dX1_rain_28 (by decide) ?_
        refine r_iand (pc := 31) X dX1_rain_31 ?_
        refine r_top ((cd_l hlt).trans (by rw [e2])) ?_
        refine r_iald (pc := 32) X dX1_rain_32 hf rfl (by omega) (by omega) rfl ?_
        refine r_istore (pc := 33) X dX1_rain_33 (Nat.le_of_ble_eq_true rfl) ?_
        refine r_aload_n (pc := 35) X dX1_rain_35 rfl ?_
        refine r_getr (pc := 36) X dX1_rain_36 tf_1_7 rfl he hc ?_
        refine r_iload (pc := 39) X dX1_rain_39 rfl ?_
        refine r_iald (pc := 41) X dX1_rain_41 hcc rfl (by omega) (by omega) ec ?_
        refine r_sipush (pc := 42) (v := (nI 255)) X dX1_rain_42 (by decide) ?_
        refine r_iand (pc := 45) X dX1_rain_45 ?_
        refine r_top ((cd_v hlt).trans (by rw [e3])) ?_
        refine r_istore (pc := 46) X dX1_rain_46 (Nat.le_of_ble_eq_true rfl) ?_
        refine r_aload_n (pc := 48) X dX1_rain_48 rfl ?_
        refine r_getr (pc := 49) X dX1_rain_49 tf_1_7 rfl he hc ?_
        refine r_iload (pc := 52) X dX1_rain_52 rfl ?_
        refine r_iald (pc := 54) X dX1_rain_54 hcc rfl (by omega) (by omega) ec ?_
        refine r_bipush (pc := 55) (v := (nI 16)) X dX1_rain_55 (by decide) ?_
        refine r_ishr (pc := 57) X dX1_rain_57 ?_
        refine r_top ((cd_s hlt).trans (by rw [e1])) ?_
        refine r_tableIn (pc := 58) (tgt := 100) X dX1_rain_58 (by rw [(rfl : nI 0 = nI 0)]; decide) (by rw [(rfl : nI 0 = nI 0)]; decide) (by rw [(rfl : nI 0 = nI 0)]; rfl) (by decide) ?_
        refine r_iload_n (pc := 100) X dX1_rain_100 rfl ?_
        refine r_iconst (pc := 101) (v := (nI 1)) X dX1_rain_101 (by decide) ?_
        refine r_ishl (pc := 102) X dX1_rain_102 ?_
        refine r_iload (pc := 103) X dX1_rain_103 rfl ?_
        refine r_iload (pc := 105) X dX1_rain_105 rfl ?_
        refine r_icmp_ge (pc := 107) X dX1_rain_107 (tgt := 114) (by decide) (fun c107 => ?_) (fun c107 => ?_)
        · refine r_iconst (pc := 114) (v := (nI 0)) X dX1_rain_114 (by decide) ?_
          refine r_ior (pc := 115) X dX1_rain_115 ?_
          refine r_istore_n (pc := 116) X dX1_rain_116 (Nat.le_of_ble_eq_true rfl) ?_
          refine r_goto (pc := 117) X dX1_rain_117 (tgt := 211) (by decide) ?_
          refine r_iinc (pc := 211) X dX1_rain_211 rfl (by first | exact nI_i1 _ | rfl) ?_
          refine r_goto (pc := 214) X dX1_rain_214 (tgt := 7) (by decide) ?_
          have g := ih (k + 1) (some (.int (h_i h fx l))) (some (.int (nI v))) (by omega)
          rw [g0] at g
          simp only [rstep, e1, e2, e3] at g
          first | rw [decide_eq_true c107] at g | rw [decide_eq_false c107] at g
          try simp only [Bool.not_true, Bool.not_false] at g
          simp only [b2] at g
          exact g
        · refine r_iconst (pc := 110) (v := (nI 1)) X dX1_rain_110 (by decide) ?_
          refine r_goto (pc := 111) X dX1_rain_111 (tgt := 115) (by decide) ?_
          refine r_ior (pc := 115) X dX1_rain_115 ?_
          refine r_istore_n (pc := 116) X dX1_rain_116 (Nat.le_of_ble_eq_true rfl) ?_
          refine r_goto (pc := 117) X dX1_rain_117 (tgt := 211) (by decide) ?_
          refine r_iinc (pc := 211) X dX1_rain_211 rfl (by first | exact nI_i1 _ | rfl) ?_
          refine r_goto (pc := 214) X dX1_rain_214 (tgt := 7) (by decide) ?_
          have g := ih (k + 1) (some (.int (h_i h fx l))) (some (.int (nI v))) (by omega)
          rw [g0] at g
          simp only [rstep, e1, e2, e3] at g
          first | rw [decide_eq_true c107] at g | rw [decide_eq_false c107] at g
          try simp only [Bool.not_true, Bool.not_false] at g
          simp only [b2] at g
          exact g
    · refine r_iload (pc := 7) X dX1_rain_7 rfl ?_
      refine r_aload_n (pc := 9) X dX1_rain_9 rfl ?_
      refine r_getr (pc := 10) X dX1_rain_10 tf_1_7 rfl he hc ?_
      refine r_alen (pc := 13) X dX1_rain_13 hcc (by decide) rfl ?_
      refine r_icmp_geN (pc := 14) X dX1_rain_14 (tgt := 217) (by decide) (by omega) (by omega) (fun c14 => ?_) (fun c14 => ?_)
      · exact absurd c14 (by omega)
      · refine r_aload_n (pc := 17) X dX1_rain_17 rfl ?_
        refine r_aload_n (pc := 18) X dX1_rain_18 rfl ?_
        refine r_getr (pc := 19) X dX1_rain_19 tf_1_7 rfl he hc ?_
        refine r_iload (pc := 22) X dX1_rain_22 rfl ?_
        refine r_iald (pc := 24) X dX1_rain_24 hcc rfl (by omega) (by omega) ec ?_
        refine r_bipush (pc := 25) (v := (nI 8)) X dX1_rain_25 (by decide) ?_
        refine r_ishr (pc := 27) X dX1_rain_27 ?_
        refine r_sipush (pc := 28) (v := (nI 255)) X dX1_rain_28 (by decide) ?_
        refine r_iand (pc := 31) X dX1_rain_31 ?_
        refine r_top ((cd_l hlt).trans (by rw [e2])) ?_
        refine r_iald (pc := 32) X dX1_rain_32 hf rfl (by omega) (by omega) rfl ?_
        refine r_istore (pc := 33) X dX1_rain_33 (Nat.le_of_ble_eq_true rfl) ?_
        refine r_aload_n (pc := 35) X dX1_rain_35 rfl ?_
        refine r_getr (pc := 36) X dX1_rain_36 tf_1_7 rfl he hc ?_
        refine r_iload (pc := 39) X dX1_rain_39 rfl ?_
        refine r_iald (pc := 41) X dX1_rain_41 hcc rfl (by omega) (by omega) ec ?_
        refine r_sipush (pc := 42) (v := (nI 255)) X dX1_rain_42 (by decide) ?_
        refine r_iand (pc := 45) X dX1_rain_45 ?_
        refine r_top ((cd_v hlt).trans (by rw [e3])) ?_
        refine r_istore (pc := 46) X dX1_rain_46 (Nat.le_of_ble_eq_true rfl) ?_
        refine r_aload_n (pc := 48) X dX1_rain_48 rfl ?_
        refine r_getr (pc := 49) X dX1_rain_49 tf_1_7 rfl he hc ?_
        refine r_iload (pc := 52) X dX1_rain_52 rfl ?_
        refine r_iald (pc := 54) X dX1_rain_54 hcc rfl (by omega) (by omega) ec ?_
        refine r_bipush (pc := 55) (v := (nI 16)) X dX1_rain_55 (by decide) ?_
        refine r_ishr (pc := 57) X dX1_rain_57 ?_
        refine r_top ((cd_s hlt).trans (by rw [e1])) ?_
        refine r_tableIn (pc := 58) (tgt := 120) X dX1_rain_58 (by rw [(rfl : nI 1 = nI 1)]; decide) (by rw [(rfl : nI 1 = nI 1)]; decide) (by rw [(rfl : nI 1 = nI 1)]; rfl) (by decide) ?_
        refine r_iload_n (pc := 120) X dX1_rain_120 rfl ?_
        refine r_iconst (pc := 121) (v := (nI 1)) X dX1_rain_121 (by decide) ?_
        refine r_ishl (pc := 122) X dX1_rain_122 ?_
        refine r_iload (pc := 123) X dX1_rain_123 rfl ?_
        refine r_iload (pc := 125) X dX1_rain_125 rfl ?_
        refine r_icmp_ne (pc := 127) X dX1_rain_127 (tgt := 134) (by decide) (fun c127 => ?_) (fun c127 => ?_)
        · refine r_iconst (pc := 134) (v := (nI 0)) X dX1_rain_134 (by decide) ?_
          refine r_ior (pc := 135) X dX1_rain_135 ?_
          refine r_istore_n (pc := 136) X dX1_rain_136 (Nat.le_of_ble_eq_true rfl) ?_
          refine r_goto (pc := 137) X dX1_rain_137 (tgt := 211) (by decide) ?_
          refine r_iinc (pc := 211) X dX1_rain_211 rfl (by first | exact nI_i1 _ | rfl) ?_
          refine r_goto (pc := 214) X dX1_rain_214 (tgt := 7) (by decide) ?_
          have g := ih (k + 1) (some (.int (h_i h fx l))) (some (.int (nI v))) (by omega)
          rw [g0] at g
          simp only [rstep, e1, e2, e3] at g
          first | rw [decide_eq_true c127] at g | rw [decide_eq_false c127] at g
          try simp only [Bool.not_true, Bool.not_false] at g
          simp only [b2] at g
          exact g
        · refine r_iconst (pc := 130) (v := (nI 1)) X dX1_rain_130 (by decide) ?_
          refine r_goto (pc := 131) X dX1_rain_131 (tgt := 135) (by decide) ?_
          refine r_ior (pc := 135) X dX1_rain_135 ?_
          refine r_istore_n (pc := 136) X dX1_rain_136 (Nat.le_of_ble_eq_true rfl) ?_
          refine r_goto (pc := 137) X dX1_rain_137 (tgt := 211) (by decide) ?_
          refine r_iinc (pc := 211) X dX1_rain_211 rfl (by first | exact nI_i1 _ | rfl) ?_
          refine r_goto (pc := 214) X dX1_rain_214 (tgt := 7) (by decide) ?_
          have g := ih (k + 1) (some (.int (h_i h fx l))) (some (.int (nI v))) (by omega)
          rw [g0] at g
          simp only [rstep, e1, e2, e3] at g
          first | rw [decide_eq_true c127] at g | rw [decide_eq_false c127] at g
          try simp only [Bool.not_true, Bool.not_false] at g
          simp only [b2] at g
          exact g
    · refine r_iload (pc := 7) X dX1_rain_7 rfl ?_
      refine r_aload_n (pc := 9) X dX1_rain_9 rfl ?_
      refine r_getr (pc := 10) X dX1_rain_10 tf_1_7 rfl he hc ?_
      refine r_alen (pc := 13) X dX1_rain_13 hcc (by decide) rfl ?_
      refine r_icmp_geN (pc := 14) X dX1_rain_14 (tgt := 217) (by decide) (by omega) (by omega) (fun c14 => ?_) (fun c14 => ?_)
      · exact absurd c14 (by omega)
      · refine r_aload_n (pc := 17) X dX1_rain_17 rfl ?_
        refine r_aload_n (pc := 18) X dX1_rain_18 rfl ?_
        refine r_getr (pc := 19) X dX1_rain_19 tf_1_7 rfl he hc ?_
        refine r_iload (pc := 22) X dX1_rain_22 rfl ?_
        refine r_iald (pc := 24) X dX1_rain_24 hcc rfl (by omega) (by omega) ec ?_
        refine r_bipush (pc := 25) (v := (nI 8)) X dX1_rain_25 (by decide) ?_
        refine r_ishr (pc := 27) X dX1_rain_27 ?_
        refine r_sipush (pc := 28) (v := (nI 255)) X dX1_rain_28 (by decide) ?_
        refine r_iand (pc := 31) X dX1_rain_31 ?_
        refine r_top ((cd_l hlt).trans (by rw [e2])) ?_
        refine r_iald (pc := 32) X dX1_rain_32 hf rfl (by omega) (by omega) rfl ?_
        refine r_istore (pc := 33) X dX1_rain_33 (Nat.le_of_ble_eq_true rfl) ?_
        refine r_aload_n (pc := 35) X dX1_rain_35 rfl ?_
        refine r_getr (pc := 36) X dX1_rain_36 tf_1_7 rfl he hc ?_
        refine r_iload (pc := 39) X dX1_rain_39 rfl ?_
        refine r_iald (pc := 41) X dX1_rain_41 hcc rfl (by omega) (by omega) ec ?_
        refine r_sipush (pc := 42) (v := (nI 255)) X dX1_rain_42 (by decide) ?_
        refine r_iand (pc := 45) X dX1_rain_45 ?_
        refine r_top ((cd_v hlt).trans (by rw [e3])) ?_
        refine r_istore (pc := 46) X dX1_rain_46 (Nat.le_of_ble_eq_true rfl) ?_
        refine r_aload_n (pc := 48) X dX1_rain_48 rfl ?_
        refine r_getr (pc := 49) X dX1_rain_49 tf_1_7 rfl he hc ?_
        refine r_iload (pc := 52) X dX1_rain_52 rfl ?_
        refine r_iald (pc := 54) X dX1_rain_54 hcc rfl (by omega) (by omega) ec ?_
        refine r_bipush (pc := 55) (v := (nI 16)) X dX1_rain_55 (by decide) ?_
        refine r_ishr (pc := 57) X dX1_rain_57 ?_
        refine r_top ((cd_s hlt).trans (by rw [e1])) ?_
        refine r_tableIn (pc := 58) (tgt := 140) X dX1_rain_58 (by rw [(rfl : nI 2 = nI 2)]; decide) (by rw [(rfl : nI 2 = nI 2)]; decide) (by rw [(rfl : nI 2 = nI 2)]; rfl) (by decide) ?_
        refine r_iload_n (pc := 140) X dX1_rain_140 rfl ?_
        refine r_iconst (pc := 141) (v := (nI 1)) X dX1_rain_141 (by decide) ?_
        refine r_ishl (pc := 142) X dX1_rain_142 ?_
        refine r_iload (pc := 143) X dX1_rain_143 rfl ?_
        refine r_iload (pc := 145) X dX1_rain_145 rfl ?_
        refine r_icmp_le (pc := 147) X dX1_rain_147 (tgt := 154) (by decide) (fun c147 => ?_) (fun c147 => ?_)
        · refine r_iconst (pc := 154) (v := (nI 0)) X dX1_rain_154 (by decide) ?_
          refine r_ior (pc := 155) X dX1_rain_155 ?_
          refine r_istore_n (pc := 156) X dX1_rain_156 (Nat.le_of_ble_eq_true rfl) ?_
          refine r_goto (pc := 157) X dX1_rain_157 (tgt := 211) (by decide) ?_
          refine r_iinc (pc := 211) X dX1_rain_211 rfl (by first | exact nI_i1 _ | rfl) ?_
          refine r_goto (pc := 214) X dX1_rain_214 (tgt := 7) (by decide) ?_
          have g := ih (k + 1) (some (.int (h_i h fx l))) (some (.int (nI v))) (by omega)
          rw [g0] at g
          simp only [rstep, e1, e2, e3] at g
          first | rw [decide_eq_true c147] at g | rw [decide_eq_false c147] at g
          try simp only [Bool.not_true, Bool.not_false] at g
          simp only [b2] at g
          exact g
        · refine r_iconst (pc := 150) (v := (nI 1)) X dX1_rain_150 (by decide) ?_
          refine r_goto (pc := 151) X dX1_rain_151 (tgt := 155) (by decide) ?_
          refine r_ior (pc := 155) X dX1_rain_155 ?_
          refine r_istore_n (pc := 156) X dX1_rain_156 (Nat.le_of_ble_eq_true rfl) ?_
          refine r_goto (pc := 157) X dX1_rain_157 (tgt := 211) (by decide) ?_
          refine r_iinc (pc := 211) X dX1_rain_211 rfl (by first | exact nI_i1 _ | rfl) ?_
          refine r_goto (pc := 214) X dX1_rain_214 (tgt := 7) (by decide) ?_
          have g := ih (k + 1) (some (.int (h_i h fx l))) (some (.int (nI v))) (by omega)
          rw [g0] at g
          simp only [rstep, e1, e2, e3] at g
          first | rw [decide_eq_true c147] at g | rw [decide_eq_false c147] at g
          try simp only [Bool.not_true, Bool.not_false] at g
          simp only [b2] at g
          exact g
    · refine r_iload (pc := 7) X dX1_rain_7 rfl ?_
      refine r_aload_n (pc := 9) X dX1_rain_9 rfl ?_
      refine r_getr (pc := 10) X dX1_rain_10 tf_1_7 rfl he hc ?_
      refine r_alen (pc := 13) X dX1_rain_13 hcc (by decide) rfl ?_
      refine r_icmp_geN (pc := 14) X dX1_rain_14 (tgt := 217) (by decide) (by omega) (by omega) (fun c14 => ?_) (fun c14 => ?_)
      · exact absurd c14 (by omega)
      · refine r_aload_n (pc := 17) X dX1_rain_17 rfl ?_
        refine r_aload_n (pc := 18) X dX1_rain_18 rfl ?_
        refine r_getr (pc := 19) X dX1_rain_19 tf_1_7 rfl he hc ?_
        refine r_iload (pc := 22) X dX1_rain_22 rfl ?_
        refine r_iald (pc := 24) X dX1_rain_24 hcc rfl (by omega) (by omega) ec ?_
        refine r_bipush (pc := 25) (v := (nI 8)) X dX1_rain_25 (by decide) ?_
        refine r_ishr (pc := 27) X dX1_rain_27 ?_
        refine r_sipush (pc := 28) (v := (nI 255)) X dX1_rain_28 (by decide) ?_
        refine r_iand (pc := 31) X dX1_rain_31 ?_
        refine r_top ((cd_l hlt).trans (by rw [e2])) ?_
        refine r_iald (pc := 32) X dX1_rain_32 hf rfl (by omega) (by omega) rfl ?_
        refine r_istore (pc := 33) X dX1_rain_33 (Nat.le_of_ble_eq_true rfl) ?_
        refine r_aload_n (pc := 35) X dX1_rain_35 rfl ?_
        refine r_getr (pc := 36) X dX1_rain_36 tf_1_7 rfl he hc ?_
        refine r_iload (pc := 39) X dX1_rain_39 rfl ?_
        refine r_iald (pc := 41) X dX1_rain_41 hcc rfl (by omega) (by omega) ec ?_
        refine r_sipush (pc := 42) (v := (nI 255)) X dX1_rain_42 (by decide) ?_
        refine r_iand (pc := 45) X dX1_rain_45 ?_
        refine r_top ((cd_v hlt).trans (by rw [e3])) ?_
        refine r_istore (pc := 46) X dX1_rain_46 (Nat.le_of_ble_eq_true rfl) ?_
        refine r_aload_n (pc := 48) X dX1_rain_48 rfl ?_
        refine r_getr (pc := 49) X dX1_rain_49 tf_1_7 rfl he hc ?_
        refine r_iload (pc := 52) X dX1_rain_52 rfl ?_
        refine r_iald (pc := 54) X dX1_rain_54 hcc rfl (by omega) (by omega) ec ?_
        refine r_bipush (pc := 55) (v := (nI 16)) X dX1_rain_55 (by decide) ?_
        refine r_ishr (pc := 57) X dX1_rain_57 ?_
        refine r_top ((cd_s hlt).trans (by rw [e1])) ?_
        refine r_tableIn (pc := 58) (tgt := 160) X dX1_rain_58 (by rw [(rfl : nI 3 = nI 3)]; decide) (by rw [(rfl : nI 3 = nI 3)]; decide) (by rw [(rfl : nI 3 = nI 3)]; rfl) (by decide) ?_
        refine r_iload_n (pc := 160) X dX1_rain_160 rfl ?_
        refine r_iconst (pc := 161) (v := (nI 1)) X dX1_rain_161 (by decide) ?_
        refine r_ishr (pc := 162) X dX1_rain_162 ?_
        refine r_iload_n (pc := 163) X dX1_rain_163 rfl ?_
        refine r_bipush (pc := 164) (v := (-2)) X dX1_rain_164 (by decide) ?_
        refine r_ior (pc := 166) X dX1_rain_166 ?_
        refine r_iand (pc := 167) X dX1_rain_167 ?_
        refine r_istore_n (pc := 168) X dX1_rain_168 (Nat.le_of_ble_eq_true rfl) ?_
        refine r_goto (pc := 169) X dX1_rain_169 (tgt := 211) (by decide) ?_
        refine r_iinc (pc := 211) X dX1_rain_211 rfl (by first | exact nI_i1 _ | rfl) ?_
        refine r_goto (pc := 214) X dX1_rain_214 (tgt := 7) (by decide) ?_
        have g := ih (k + 1) (some (.int (h_i h fx l))) (some (.int (nI v))) (by omega)
        rw [g0] at g
        simp only [rstep, e1, e2, e3] at g
        exact g
    · refine r_iload (pc := 7) X dX1_rain_7 rfl ?_
      refine r_aload_n (pc := 9) X dX1_rain_9 rfl ?_
      refine r_getr (pc := 10) X dX1_rain_10 tf_1_7 rfl he hc ?_
      refine r_alen (pc := 13) X dX1_rain_13 hcc (by decide) rfl ?_
      refine r_icmp_geN (pc := 14) X dX1_rain_14 (tgt := 217) (by decide) (by omega) (by omega) (fun c14 => ?_) (fun c14 => ?_)
      · exact absurd c14 (by omega)
      · refine r_aload_n (pc := 17) X dX1_rain_17 rfl ?_
        refine r_aload_n (pc := 18) X dX1_rain_18 rfl ?_
        refine r_getr (pc := 19) X dX1_rain_19 tf_1_7 rfl he hc ?_
        refine r_iload (pc := 22) X dX1_rain_22 rfl ?_
        refine r_iald (pc := 24) X dX1_rain_24 hcc rfl (by omega) (by omega) ec ?_
        refine r_bipush (pc := 25) (v := (nI 8)) X dX1_rain_25 (by decide) ?_
        refine r_ishr (pc := 27) X dX1_rain_27 ?_
        refine r_sipush (pc := 28) (v := (nI 255)) X dX1_rain_28 (by decide) ?_
        refine r_iand (pc := 31) X dX1_rain_31 ?_
        refine r_top ((cd_l hlt).trans (by rw [e2])) ?_
        refine r_iald (pc := 32) X dX1_rain_32 hf rfl (by omega) (by omega) rfl ?_
        refine r_istore (pc := 33) X dX1_rain_33 (Nat.le_of_ble_eq_true rfl) ?_
        refine r_aload_n (pc := 35) X dX1_rain_35 rfl ?_
        refine r_getr (pc := 36) X dX1_rain_36 tf_1_7 rfl he hc ?_
        refine r_iload (pc := 39) X dX1_rain_39 rfl ?_
        refine r_iald (pc := 41) X dX1_rain_41 hcc rfl (by omega) (by omega) ec ?_
        refine r_sipush (pc := 42) (v := (nI 255)) X dX1_rain_42 (by decide) ?_
        refine r_iand (pc := 45) X dX1_rain_45 ?_
        refine r_top ((cd_v hlt).trans (by rw [e3])) ?_
        refine r_istore (pc := 46) X dX1_rain_46 (Nat.le_of_ble_eq_true rfl) ?_
        refine r_aload_n (pc := 48) X dX1_rain_48 rfl ?_
        refine r_getr (pc := 49) X dX1_rain_49 tf_1_7 rfl he hc ?_
        refine r_iload (pc := 52) X dX1_rain_52 rfl ?_
        refine r_iald (pc := 54) X dX1_rain_54 hcc rfl (by omega) (by omega) ec ?_
        refine r_bipush (pc := 55) (v := (nI 16)) X dX1_rain_55 (by decide) ?_
        refine r_ishr (pc := 57) X dX1_rain_57 ?_
        refine r_top ((cd_s hlt).trans (by rw [e1])) ?_
        refine r_tableIn (pc := 58) (tgt := 172) X dX1_rain_58 (by rw [(rfl : nI 4 = nI 4)]; decide) (by rw [(rfl : nI 4 = nI 4)]; decide) (by rw [(rfl : nI 4 = nI 4)]; rfl) (by decide) ?_
        refine r_iload_n (pc := 172) X dX1_rain_172 rfl ?_
        refine r_iconst (pc := 173) (v := (nI 1)) X dX1_rain_173 (by decide) ?_
        refine r_ishr (pc := 174) X dX1_rain_174 ?_
        refine r_iload_n (pc := 175) X dX1_rain_175 rfl ?_
        refine r_iconst (pc := 176) (v := (nI 1)) X dX1_rain_176 (by decide) ?_
        refine r_iand (pc := 177) X dX1_rain_177 ?_
        refine r_ior (pc := 178) X dX1_rain_178 ?_
        refine r_istore_n (pc := 179) X dX1_rain_179 (Nat.le_of_ble_eq_true rfl) ?_
        refine r_goto (pc := 180) X dX1_rain_180 (tgt := 211) (by decide) ?_
        refine r_iinc (pc := 211) X dX1_rain_211 rfl (by first | exact nI_i1 _ | rfl) ?_
        refine r_goto (pc := 214) X dX1_rain_214 (tgt := 7) (by decide) ?_
        have g := ih (k + 1) (some (.int (h_i h fx l))) (some (.int (nI v))) (by omega)
        rw [g0] at g
        simp only [rstep, e1, e2, e3] at g
        exact g
    · refine r_iload (pc := 7) X dX1_rain_7 rfl ?_
      refine r_aload_n (pc := 9) X dX1_rain_9 rfl ?_
      refine r_getr (pc := 10) X dX1_rain_10 tf_1_7 rfl he hc ?_
      refine r_alen (pc := 13) X dX1_rain_13 hcc (by decide) rfl ?_
      refine r_icmp_geN (pc := 14) X dX1_rain_14 (tgt := 217) (by decide) (by omega) (by omega) (fun c14 => ?_) (fun c14 => ?_)
      · exact absurd c14 (by omega)
      · refine r_aload_n (pc := 17) X dX1_rain_17 rfl ?_
        refine r_aload_n (pc := 18) X dX1_rain_18 rfl ?_
        refine r_getr (pc := 19) X dX1_rain_19 tf_1_7 rfl he hc ?_
        refine r_iload (pc := 22) X dX1_rain_22 rfl ?_
        refine r_iald (pc := 24) X dX1_rain_24 hcc rfl (by omega) (by omega) ec ?_
        refine r_bipush (pc := 25) (v := (nI 8)) X dX1_rain_25 (by decide) ?_
        refine r_ishr (pc := 27) X dX1_rain_27 ?_
        refine r_sipush (pc := 28) (v := (nI 255)) X dX1_rain_28 (by decide) ?_
        refine r_iand (pc := 31) X dX1_rain_31 ?_
        refine r_top ((cd_l hlt).trans (by rw [e2])) ?_
        refine r_iald (pc := 32) X dX1_rain_32 hf rfl (by omega) (by omega) rfl ?_
        refine r_istore (pc := 33) X dX1_rain_33 (Nat.le_of_ble_eq_true rfl) ?_
        refine r_aload_n (pc := 35) X dX1_rain_35 rfl ?_
        refine r_getr (pc := 36) X dX1_rain_36 tf_1_7 rfl he hc ?_
        refine r_iload (pc := 39) X dX1_rain_39 rfl ?_
        refine r_iald (pc := 41) X dX1_rain_41 hcc rfl (by omega) (by omega) ec ?_
        refine r_sipush (pc := 42) (v := (nI 255)) X dX1_rain_42 (by decide) ?_
        refine r_iand (pc := 45) X dX1_rain_45 ?_
        refine r_top ((cd_v hlt).trans (by rw [e3])) ?_
        refine r_istore (pc := 46) X dX1_rain_46 (Nat.le_of_ble_eq_true rfl) ?_
        refine r_aload_n (pc := 48) X dX1_rain_48 rfl ?_
        refine r_getr (pc := 49) X dX1_rain_49 tf_1_7 rfl he hc ?_
        refine r_iload (pc := 52) X dX1_rain_52 rfl ?_
        refine r_iald (pc := 54) X dX1_rain_54 hcc rfl (by omega) (by omega) ec ?_
        refine r_bipush (pc := 55) (v := (nI 16)) X dX1_rain_55 (by decide) ?_
        refine r_ishr (pc := 57) X dX1_rain_57 ?_
        refine r_top ((cd_s hlt).trans (by rw [e1])) ?_
        refine r_tableIn (pc := 58) (tgt := 183) X dX1_rain_58 (by rw [(rfl : nI 5 = nI 5)]; decide) (by rw [(rfl : nI 5 = nI 5)]; decide) (by rw [(rfl : nI 5 = nI 5)]; rfl) (by decide) ?_
        refine r_iload_n (pc := 183) X dX1_rain_183 rfl ?_
        refine r_iconst (pc := 184) (v := (nI 1)) X dX1_rain_184 (by decide) ?_
        refine r_ixor (pc := 185) X dX1_rain_185 ?_
        refine r_istore_n (pc := 186) X dX1_rain_186 (Nat.le_of_ble_eq_true rfl) ?_
        refine r_goto (pc := 187) X dX1_rain_187 (tgt := 211) (by decide) ?_
        refine r_iinc (pc := 211) X dX1_rain_211 rfl (by first | exact nI_i1 _ | rfl) ?_
        refine r_goto (pc := 214) X dX1_rain_214 (tgt := 7) (by decide) ?_
        have g := ih (k + 1) (some (.int (h_i h fx l))) (some (.int (nI v))) (by omega)
        rw [g0] at g
        simp only [rstep, e1, e2, e3] at g
        exact g
    · refine r_iload (pc := 7) X dX1_rain_7 rfl ?_
      refine r_aload_n (pc := 9) X dX1_rain_9 rfl ?_
      refine r_getr (pc := 10) X dX1_rain_10 tf_1_7 rfl he hc ?_
      refine r_alen (pc := 13) X dX1_rain_13 hcc (by decide) rfl ?_
      refine r_icmp_geN (pc := 14) X dX1_rain_14 (tgt := 217) (by decide) (by omega) (by omega) (fun c14 => ?_) (fun c14 => ?_)
      · exact absurd c14 (by omega)
      · refine r_aload_n (pc := 17) X dX1_rain_17 rfl ?_
        refine r_aload_n (pc := 18) X dX1_rain_18 rfl ?_
        refine r_getr (pc := 19) X dX1_rain_19 tf_1_7 rfl he hc ?_
        refine r_iload (pc := 22) X dX1_rain_22 rfl ?_
        refine r_iald (pc := 24) X dX1_rain_24 hcc rfl (by omega) (by omega) ec ?_
        refine r_bipush (pc := 25) (v := (nI 8)) X dX1_rain_25 (by decide) ?_
        refine r_ishr (pc := 27) X dX1_rain_27 ?_
        refine r_sipush (pc := 28) (v := (nI 255)) X dX1_rain_28 (by decide) ?_
        refine r_iand (pc := 31) X dX1_rain_31 ?_
        refine r_top ((cd_l hlt).trans (by rw [e2])) ?_
        refine r_iald (pc := 32) X dX1_rain_32 hf rfl (by omega) (by omega) rfl ?_
        refine r_istore (pc := 33) X dX1_rain_33 (Nat.le_of_ble_eq_true rfl) ?_
        refine r_aload_n (pc := 35) X dX1_rain_35 rfl ?_
        refine r_getr (pc := 36) X dX1_rain_36 tf_1_7 rfl he hc ?_
        refine r_iload (pc := 39) X dX1_rain_39 rfl ?_
        refine r_iald (pc := 41) X dX1_rain_41 hcc rfl (by omega) (by omega) ec ?_
        refine r_sipush (pc := 42) (v := (nI 255)) X dX1_rain_42 (by decide) ?_
        refine r_iand (pc := 45) X dX1_rain_45 ?_
        refine r_top ((cd_v hlt).trans (by rw [e3])) ?_
        refine r_istore (pc := 46) X dX1_rain_46 (Nat.le_of_ble_eq_true rfl) ?_
        refine r_aload_n (pc := 48) X dX1_rain_48 rfl ?_
        refine r_getr (pc := 49) X dX1_rain_49 tf_1_7 rfl he hc ?_
        refine r_iload (pc := 52) X dX1_rain_52 rfl ?_
        refine r_iald (pc := 54) X dX1_rain_54 hcc rfl (by omega) (by omega) ec ?_
        refine r_bipush (pc := 55) (v := (nI 16)) X dX1_rain_55 (by decide) ?_
        refine r_ishr (pc := 57) X dX1_rain_57 ?_
        refine r_top ((cd_s hlt).trans (by rw [e1])) ?_
        refine r_tableIn (pc := 58) (tgt := 190) X dX1_rain_58 (by rw [(rfl : nI 6 = nI 6)]; decide) (by rw [(rfl : nI 6 = nI 6)]; decide) (by rw [(rfl : nI 6 = nI 6)]; rfl) (by decide) ?_
        refine r_iload_n (pc := 190) X dX1_rain_190 rfl ?_
        refine r_iload_n (pc := 191) X dX1_rain_191 rfl ?_
        refine r_iload (pc := 192) X dX1_rain_192 rfl ?_
        refine r_imul (pc := 194) X dX1_rain_194 ?_
        refine r_iadd (pc := 195) X dX1_rain_195 ?_
        refine r_istore_n (pc := 196) X dX1_rain_196 (Nat.le_of_ble_eq_true rfl) ?_
        refine r_iconst (pc := 197) (v := (nI 0)) X dX1_rain_197 (by decide) ?_
        refine r_istore_n (pc := 198) X dX1_rain_198 (Nat.le_of_ble_eq_true rfl) ?_
        refine r_goto (pc := 199) X dX1_rain_199 (tgt := 211) (by decide) ?_
        refine r_iinc (pc := 211) X dX1_rain_211 rfl (by first | exact nI_i1 _ | rfl) ?_
        refine r_goto (pc := 214) X dX1_rain_214 (tgt := 7) (by decide) ?_
        have g := ih (k + 1) (some (.int (h_i h fx l))) (some (.int (nI v))) (by omega)
        rw [g0] at g
        simp only [rstep, e1, e2, e3] at g
        exact g
    · refine r_iload (pc := 7) X dX1_rain_7 rfl ?_
      refine r_aload_n (pc := 9) X dX1_rain_9 rfl ?_
      refine r_getr (pc := 10) X dX1_rain_10 tf_1_7 rfl he hc ?_
      refine r_alen (pc := 13) X dX1_rain_13 hcc (by decide) rfl ?_
      refine r_icmp_geN (pc := 14) X dX1_rain_14 (tgt := 217) (by decide) (by omega) (by omega) (fun c14 => ?_) (fun c14 => ?_)
      · exact absurd c14 (by omega)
      · refine r_aload_n (pc := 17) X dX1_rain_17 rfl ?_
        refine r_aload_n (pc := 18) X dX1_rain_18 rfl ?_
        refine r_getr (pc := 19) X dX1_rain_19 tf_1_7 rfl he hc ?_
        refine r_iload (pc := 22) X dX1_rain_22 rfl ?_
        refine r_iald (pc := 24) X dX1_rain_24 hcc rfl (by omega) (by omega) ec ?_
        refine r_bipush (pc := 25) (v := (nI 8)) X dX1_rain_25 (by decide) ?_
        refine r_ishr (pc := 27) X dX1_rain_27 ?_
        refine r_sipush (pc := 28) (v := (nI 255)) X dX1_rain_28 (by decide) ?_
        refine r_iand (pc := 31) X dX1_rain_31 ?_
        refine r_top ((cd_l hlt).trans (by rw [e2])) ?_
        refine r_iald (pc := 32) X dX1_rain_32 hf rfl (by omega) (by omega) rfl ?_
        refine r_istore (pc := 33) X dX1_rain_33 (Nat.le_of_ble_eq_true rfl) ?_
        refine r_aload_n (pc := 35) X dX1_rain_35 rfl ?_
        refine r_getr (pc := 36) X dX1_rain_36 tf_1_7 rfl he hc ?_
        refine r_iload (pc := 39) X dX1_rain_39 rfl ?_
        refine r_iald (pc := 41) X dX1_rain_41 hcc rfl (by omega) (by omega) ec ?_
        refine r_sipush (pc := 42) (v := (nI 255)) X dX1_rain_42 (by decide) ?_
        refine r_iand (pc := 45) X dX1_rain_45 ?_
        refine r_top ((cd_v hlt).trans (by rw [e3])) ?_
        refine r_istore (pc := 46) X dX1_rain_46 (Nat.le_of_ble_eq_true rfl) ?_
        refine r_aload_n (pc := 48) X dX1_rain_48 rfl ?_
        refine r_getr (pc := 49) X dX1_rain_49 tf_1_7 rfl he hc ?_
        refine r_iload (pc := 52) X dX1_rain_52 rfl ?_
        refine r_iald (pc := 54) X dX1_rain_54 hcc rfl (by omega) (by omega) ec ?_
        refine r_bipush (pc := 55) (v := (nI 16)) X dX1_rain_55 (by decide) ?_
        refine r_ishr (pc := 57) X dX1_rain_57 ?_
        refine r_top ((cd_s hlt).trans (by rw [e1])) ?_
        refine r_tableOut (pc := 58) (tgt := 202) X dX1_rain_58 (Or.inr (by decide)) (by decide) ?_
        refine r_iload_n (pc := 202) X dX1_rain_202 rfl ?_
        refine r_iload_n (pc := 203) X dX1_rain_203 rfl ?_
        refine r_iload (pc := 204) X dX1_rain_204 rfl ?_
        refine r_imul (pc := 206) X dX1_rain_206 ?_
        refine r_isub (pc := 207) X dX1_rain_207 ?_
        refine r_istore_n (pc := 208) X dX1_rain_208 (Nat.le_of_ble_eq_true rfl) ?_
        refine r_iconst (pc := 209) (v := (nI 0)) X dX1_rain_209 (by decide) ?_
        refine r_istore_n (pc := 210) X dX1_rain_210 (Nat.le_of_ble_eq_true rfl) ?_
        refine r_iinc (pc := 211) X dX1_rain_211 rfl (by first | exact nI_i1 _ | rfl) ?_
        refine r_goto (pc := 214) X dX1_rain_214 (tgt := 7) (by decide) ?_
        have g := ih (k + 1) (some (.int (h_i h fx l))) (some (.int (nI v))) (by omega)
        rw [g0] at g
        simp only [rstep, e1, e2, e3] at g
        exact g
set_option maxRecDepth 10000 in
set_option maxHeartbeats 4000000 in
theorem e_evrain : ∀ (d : Nat) {h : hp_T} {e c n fx : Nat} (he : ck h e 0 1) (hc : h_r h e 0 = some c) (hcc : ck h c 1 n) (hn : n ≤ 100) (hok : okC n (h_i h c)) (hf : ck h fx 1 6), Ep d nX1_rain [.ref e, .ref fx] h (.int (rainC n (h_i h c) (h_i h fx))) := by
  intro d h e c n fx he hc hcc hn hok hf
  refine Ex.of mm_X1_rain (Nat.le_of_ble_eq_true rfl) fun w κ X hk hnm => ?_
  refine r_iconst (pc := 0) (v := (nI 0)) X dX1_rain_0 (by decide) ?_
  refine r_istore_n (pc := 1) X dX1_rain_1 (Nat.le_of_ble_eq_true rfl) ?_
  refine r_iconst (pc := 2) (v := (nI 0)) X dX1_rain_2 (by decide) ?_
  refine r_istore_n (pc := 3) X dX1_rain_3 (Nat.le_of_ble_eq_true rfl) ?_
  refine r_iconst (pc := 4) (v := (nI 0)) X dX1_rain_4 (by decide) ?_
  refine r_istore (pc := 5) X dX1_rain_5 (Nat.le_of_ble_eq_true rfl) ?_
  exact l_evrain d he hc hcc hn hok hf X ⟨⟨rfl, rfl⟩, rfl⟩ n 0 _ _ (Nat.zero_add _)
set_option maxRecDepth 10000 in
set_option maxHeartbeats 4000000 in
theorem e_rain : ∀ (d : Nat) {h : hp_T} {M : Mem} {o p : Nat} {E : EV} (S : St h o) (hE : evC h M (h_r h o 11) E) (hD : evD h o (h_r h o 11)) (hp : p < 6), Ei (d + 1) nX5_rain [.ref o, .int (nI p)] (wi h M) (fun r M1 => r = rainF E (Sv M o) p ∧ pS M o (Sv M o) M1) := by
  intro d h M o p E S hE hD hp
  refine Ex.of mm_X5_rain (Nat.le_of_ble_eq_true rfl) fun w κ X hk hnm => ?_
  rcases hE with ⟨hr, rfl⟩ | ⟨e, c, n, hr, he, hc, hcc, hn, hok, rfl⟩
  · refine r_aload_n (pc := 0) X dX5_rain_0 rfl ?_
    refine r_getn (pc := 1) X dX5_rain_1 tf_5_65 rfl S.c0 hr ?_
    refine r_ifnonnullN (pc := 4) X dX5_rain_4 ?_
    refine r_iconst (pc := 7) (v := (nI 0)) X dX5_rain_7 (by decide) ?_
    refine r_iret (pc := 8) X dX5_rain_8 rfl rfl ?_
    exact ⟨⟨_, _, rfl, rfl, rfl, pS.rf⟩, rfl⟩
  · have hce := (hD e hr).2 c hc
    have hc7 : c ≠ o + 7 := by omega
    refine r_aload_n (pc := 0) X dX5_rain_0 rfl ?_
    refine r_getr (pc := 1) X dX5_rain_1 tf_5_65 rfl S.c0 hr ?_
    refine r_ifnonnull (pc := 4) X dX5_rain_4 (tgt := 9) (by decide) he.2.1 ?_
    refine r_aload_n (pc := 9) X dX5_rain_9 rfl ?_
    refine r_getr (pc := 10) X dX5_rain_10 tf_5_44 rfl S.c0 S.r12 ?_
    refine r_iconst (pc := 13) (v := (nI 0)) X dX5_rain_13 (by decide) ?_
    refine r_iload_n (pc := 14) X dX5_rain_14 rfl ?_
    refine r_iastW (pc := 15) X dX5_rain_15 S.a7 (j := 0) rfl (by omega) (by omega) ?_
    refine r_aload_n (pc := 16) X dX5_rain_16 rfl ?_
    refine r_getr (pc := 17) X dX5_rain_17 tf_5_44 rfl S.c0 S.r12 ?_
    refine r_iconst (pc := 20) (v := (nI 1)) X dX5_rain_20 (by decide) ?_
    refine r_aload_n (pc := 21) X dX5_rain_21 rfl ?_
    refine r_getr (pc := 22) X dX5_rain_22 tf_5_9 rfl S.c0 S.r0 ?_
    refine r_iload_n (pc := 25) X dX5_rain_25 rfl ?_
    refine r_ialdW (pc := 26) X dX5_rain_26 S.a1 rfl (by omega) (by omega) (by simp only [mU_ne (show o + 1 ≠ o + 7 by omega)]; rfl) ?_
    refine r_iastW (pc := 27) X dX5_rain_27 S.a7 (j := 1) rfl (by omega) (by omega) ?_
    refine r_aload_n (pc := 28) X dX5_rain_28 rfl ?_
    refine r_getr (pc := 29) X dX5_rain_29 tf_5_44 rfl S.c0 S.r12 ?_
    refine r_iconst (pc := 32) (v := (nI 2)) X dX5_rain_32 (by decide) ?_
    refine r_aload_n (pc := 33) X dX5_rain_33 rfl ?_
    refine r_getr (pc := 34) X dX5_rain_34 tf_5_18 rfl S.c0 S.r2 ?_
    refine r_iload_n (pc := 37) X dX5_rain_37 rfl ?_
    refine r_ialdW (pc := 38) X dX5_rain_38 S.a3 rfl (by omega) (by omega) (by simp only [mU_ne (show o + 3 ≠ o + 7 by omega)]; rfl) ?_
    refine r_iastW (pc := 39) X dX5_rain_39 S.a7 (j := 2) rfl (by omega) (by omega) ?_
    refine r_aload_n (pc := 40) X dX5_rain_40 rfl ?_
    refine r_getr (pc := 41) X dX5_rain_41 tf_5_44 rfl S.c0 S.r12 ?_
    refine r_iconst (pc := 44) (v := (nI 3)) X dX5_rain_44 (by decide) ?_
    refine r_aload_n (pc := 45) X dX5_rain_45 rfl ?_
    refine r_getr (pc := 46) X dX5_rain_46 tf_5_21 rfl S.c0 S.r3 ?_
    refine r_iload_n (pc := 49) X dX5_rain_49 rfl ?_
    refine r_ialdW (pc := 50) X dX5_rain_50 S.a4 rfl (by omega) (by omega) (by simp only [mU_ne (show o + 4 ≠ o + 7 by omega)]; rfl) ?_
    refine r_iastW (pc := 51) X dX5_rain_51 S.a7 (j := 3) rfl (by omega) (by omega) ?_
    refine r_aload_n (pc := 52) X dX5_rain_52 rfl ?_
    refine r_getr (pc := 53) X dX5_rain_53 tf_5_44 rfl S.c0 S.r12 ?_
    refine r_iconst (pc := 56) (v := (nI 4)) X dX5_rain_56 (by decide) ?_
    refine r_aload_n (pc := 57) X dX5_rain_57 rfl ?_
    refine r_getiW (pc := 58) X dX5_rain_58 tf_5_59 rfl S.c0 (by simp only [mU_ne (show o ≠ o + 7 by omega)]; rfl) ?_
    refine r_bipush (pc := 61) (v := (nI 10)) X dX5_rain_61 (by decide) ?_
    refine r_idiv (pc := 63) X dX5_rain_63 (by decide) ?_
    refine r_iastW (pc := 64) X dX5_rain_64 S.a7 (j := 4) rfl (by omega) (by omega) ?_
    refine r_aload_n (pc := 65) X dX5_rain_65 rfl ?_
    refine r_getr (pc := 66) X dX5_rain_66 tf_5_44 rfl S.c0 S.r12 ?_
    refine r_iconst (pc := 69) (v := (nI 5)) X dX5_rain_69 (by decide) ?_
    refine r_aload_n (pc := 70) X dX5_rain_70 rfl ?_
    refine r_getiW (pc := 71) X dX5_rain_71 tf_5_62 rfl S.c0 (by simp only [mU_ne (show o ≠ o + 7 by omega)]; rfl) ?_
    refine r_bipush (pc := 74) (v := (nI 10)) X dX5_rain_74 (by decide) ?_
    refine r_irem (pc := 76) X dX5_rain_76 (by decide) ?_
    refine r_iastW (pc := 77) X dX5_rain_77 S.a7 (j := 5) rfl (by omega) (by omega) ?_
    refine r_aload_n (pc := 78) X dX5_rain_78 rfl ?_
    refine r_getr (pc := 79) X dX5_rain_79 tf_5_65 rfl S.c0 hr ?_
    refine r_aload_n (pc := 82) X dX5_rain_82 rfl ?_
    refine r_getr (pc := 83) X dX5_rain_83 tf_5_44 rfl S.c0 S.r12 ?_
    refine r_c0_1P (pc := 86) X rfl dX5_rain_86 tc_5_78 mm_X1_rain he rfl rfl (e_evrain d he hc hcc hn (by simp only [h_i, wi, mU_ne hc7]; exact hok) S.a7) (Nat.le_of_ble_eq_true rfl) ?_
    refine r_iret (pc := 89) X dX5_rain_89 rfl rfl ?_
    refine ⟨⟨_, _, rfl, rfl, ?_, pS.u7 (pS.u7 (pS.u7 (pS.u7 (pS.u7 (pS.u7 pS.rf)))))⟩, rfl⟩
    refine rain_eq (by simp only [h_i, wi, mU_ne hc7]) (fun i hi => ?_) hok
    rcases (show i = 0 ∨ i = 1 ∨ i = 2 ∨ i = 3 ∨ i = 4 ∨ i = 5 by omega) with rfl | rfl | rfl | rfl | rfl | rfl <;> simp [h_i, wi, mU, upd, factsF, Sv, rem_]
set_option maxRecDepth 10000 in
set_option maxHeartbeats 4000000 in
theorem e_hand : ∀ (d : Nat) {h : hp_T} {M : Mem} {o : Nat} (x : Int32) (S : St h o), Ev d nX5_hand [.ref o, .int x] (wi h M) (fun M1 => pS M o (handF (Sv M o) x) M1) := by
  intro d h M o x S
  refine Ex.of mm_X5_hand (Nat.le_of_ble_eq_true rfl) fun w κ X hk hnm => ?_
  refine r_aload_n (pc := 0) X dX5_hand_0 rfl ?_
  refine r_iload_n (pc := 1) X dX5_hand_1 rfl ?_
  refine r_putiW (pc := 2) X dX5_hand_2 tf_5_56 rfl (Or.inl rfl) S.c0 ⟨rfl, rfl⟩ ?_
  refine r_aload_n (pc := 5) X dX5_hand_5 rfl ?_
  refine r_bipush (pc := 6) (v := (-5)) X dX5_hand_6 (by decide) ?_
  refine r_putiW (pc := 8) X dX5_hand_8 tf_5_30 rfl (Or.inl rfl) S.c0 ⟨rfl, rfl⟩ ?_
  refine r_vret (pc := 11) X dX5_hand_11 rfl ?_
  exact ⟨⟨_, rfl, rfl, (pS.rf.u0).u0⟩, rfl⟩
set_option maxRecDepth 10000 in
set_option maxHeartbeats 4000000 in
theorem e_carry : ∀ (d : Nat) {h : hp_T} {M : Mem} {o p q B : Nat} {E : EV} (S : St h o) (hE : evC h M (h_r h o 11) E) (hD : evD h o (h_r h o 11)) (hW : WF B (Sv M o)) (hp : p < 6) (hq : q < 6), Ei (d + 3) nX5_carryOrTell [.ref o, .int (nI p), .int (nI q)] (wi h M) (fun r M1 => r = (carryF E (Sv M o) p q).1 ∧ pS M o (carryF E (Sv M o) p q).2 M1) := by
  intro d h M o p q B E S hE hD hW hp hq
  refine Ex.of mm_X5_carryOrTell (Nat.le_of_ble_eq_true rfl) fun w κ X hk hnm => ?_
  refine r_aload_n (pc := 0) X dX5_carryOrTell_0 rfl ?_
  refine r_iload_n (pc := 1) X dX5_carryOrTell_1 rfl ?_
  refine r_iload_n (pc := 2) X dX5_carryOrTell_2 rfl ?_
  refine r_c0_2P (pc := 3) X rfl dX5_carryOrTell_3 tc_5_110 mm_X5_way S.c0 rfl rfl (e_way (d + 1) S hp hq) (Nat.le_of_ble_eq_true rfl) ?_
  refine r_aload_n (pc := 6) X dX5_carryOrTell_6 rfl ?_
  refine r_iload_n (pc := 7) X dX5_carryOrTell_7 rfl ?_
  refine r_c0_1P (pc := 8) X rfl dX5_carryOrTell_8 tc_5_98 mm_X5_reach S.c0 rfl rfl (e_reach (d + 1) S hE hW hp) (Nat.le_of_ble_eq_true rfl) ?_
  refine r_icmp_gt (pc := 11) X dX5_carryOrTell_11 (tgt := 45) (by decide) (fun c11 => ?_) (fun c11 => ?_)
  · refine r_aload_n (pc := 45) X dX5_carryOrTell_45 rfl ?_
    refine r_getr (pc := 46) X dX5_carryOrTell_46 tf_5_21 rfl S.c0 S.r3 ?_
    refine r_iload_n (pc := 49) X dX5_carryOrTell_49 rfl ?_
    refine r_ialdW (pc := 50) X dX5_carryOrTell_50 S.a4 rfl (by omega) (by omega) rfl ?_
    refine r_if_le (pc := 51) X dX5_carryOrTell_51 (tgt := 95) (by decide) (fun c51 => ?_) (fun c51 => ?_)
    · refine r_aload_n (pc := 95) X dX5_carryOrTell_95 rfl ?_
      refine r_iload_n (pc := 96) X dX5_carryOrTell_96 rfl ?_
      refine r_putiW (pc := 97) X dX5_carryOrTell_97 tf_5_30 rfl (Or.inl rfl) S.c0 ⟨rfl, rfl⟩ ?_
      refine r_iconst (pc := 100) (v := (nI 2)) X dX5_carryOrTell_100 (by decide) ?_
      refine r_iret (pc := 101) X dX5_carryOrTell_101 rfl rfl ?_
      have c11 : reachF E (Sv M o) p < wayF (Sv M o) p q := c11
      have c51 : Sv M o 4 p ≤ 0 := c51
      refine ⟨⟨_, _, rfl, rfl, ?_, ?_⟩, rfl⟩
      · rw [carryF, if_pos c11, if_pos c51]
      · rw [carryF, if_pos c11, if_pos c51]
        exact pS.rf.u0
    · refine r_aload_n (pc := 54) X dX5_carryOrTell_54 rfl ?_
      refine r_getr (pc := 55) X dX5_carryOrTell_55 tf_5_21 rfl S.c0 S.r3 ?_
      refine r_iload_n (pc := 58) X dX5_carryOrTell_58 rfl ?_
      refine r_dup2 (pc := 59) X dX5_carryOrTell_59 rfl rfl ?_
      refine r_ialdW (pc := 60) X dX5_carryOrTell_60 S.a4 rfl (by omega) (by omega) rfl ?_
      refine r_iconst (pc := 61) (v := (nI 1)) X dX5_carryOrTell_61 (by decide) ?_
      refine r_isub (pc := 62) X dX5_carryOrTell_62 ?_
      refine r_iastW (pc := 63) X dX5_carryOrTell_63 S.a4 rfl (by omega) (by omega) ?_
      refine r_aload_n (pc := 64) X dX5_carryOrTell_64 rfl ?_
      refine r_getr (pc := 65) X dX5_carryOrTell_65 tf_5_24 rfl S.c0 S.r4 ?_
      refine r_iload_n (pc := 68) X dX5_carryOrTell_68 rfl ?_
      refine r_dup2 (pc := 69) X dX5_carryOrTell_69 rfl rfl ?_
      refine r_ialdW (pc := 70) X dX5_carryOrTell_70 S.a5 rfl (by omega) (by omega) (by rw [mU_ne (show o + 5 ≠ o + 4 by omega)]) ?_
      refine r_iconst (pc := 71) (v := (nI 1)) X dX5_carryOrTell_71 (by decide) ?_
      refine r_iadd (pc := 72) X dX5_carryOrTell_72 ?_
      refine r_iastW (pc := 73) X dX5_carryOrTell_73 S.a5 rfl (by omega) (by omega) ?_
      refine r_aload_n (pc := 74) X dX5_carryOrTell_74 rfl ?_
      refine r_sipush (pc := 75) (v := (nI 999)) X dX5_carryOrTell_75 (by decide) ?_
      refine r_aload_n (pc := 78) X dX5_carryOrTell_78 rfl ?_
      refine r_getiW (pc := 79) X dX5_carryOrTell_79 tf_5_59 rfl S.c0 (by rw [mU_ne (show o ≠ o + 5 by omega), mU_ne (show o ≠ o + 4 by omega)]) ?_
      refine r_aload_n (pc := 82) X dX5_carryOrTell_82 rfl ?_
      refine r_c0_0P (pc := 83) X rfl dX5_carryOrTell_83 tc_5_128 mm_X5_cost S.c0 rfl rfl (e_cost (d + 2) S (evS hE hD (pS.uf (by omega) (pS.uf (by omega) pS.rf)).2)) (Nat.le_of_ble_eq_true rfl) ?_
      refine r_iadd (pc := 86) X dX5_carryOrTell_86 ?_
      refine r_min (pc := 87) X rfl dX5_carryOrTell_87 tx_5_125 (Nat.le_of_ble_eq_true rfl) ?_
      refine r_putiW (pc := 90) X dX5_carryOrTell_90 tf_5_59 rfl (Or.inl rfl) S.c0 ⟨rfl, rfl⟩ ?_
      refine r_iconst (pc := 93) (v := (nI 1)) X dX5_carryOrTell_93 (by decide) ?_
      refine r_iret (pc := 94) X dX5_carryOrTell_94 rfl rfl ?_
      have c11 : reachF E (Sv M o) p < wayF (Sv M o) p q := c11
      have c51 : ¬ Sv M o 4 p ≤ 0 := c51
      refine ⟨⟨_, _, rfl, rfl, ?_, ?_⟩, rfl⟩
      · rw [carryF, if_pos c11, if_neg c51]
      · rw [carryF, if_pos c11, if_neg c51]
        exact ((pS.rf.uf (by omega)).uf (by omega)).u0
  · refine r_aload_n (pc := 14) X dX5_carryOrTell_14 rfl ?_
    refine r_iconst (pc := 15) (v := (nI 0)) X dX5_carryOrTell_15 (by decide) ?_
    refine r_sipush (pc := 16) (v := (nI 999)) X dX5_carryOrTell_16 (by decide) ?_
    refine r_aload_n (pc := 19) X dX5_carryOrTell_19 rfl ?_
    refine r_getiW (pc := 20) X dX5_carryOrTell_20 tf_5_59 rfl S.c0 rfl ?_
    refine r_aload_n (pc := 23) X dX5_carryOrTell_23 rfl ?_
    refine r_iload_n (pc := 24) X dX5_carryOrTell_24 rfl ?_
    refine r_c0_1IW (pc := 25) X rfl dX5_carryOrTell_25 tc_5_123 mm_X5_rain S.c0 rfl rfl (e_rain (d + 1) S hE hD hp) (Nat.le_of_ble_eq_true rfl) (fun r25 M25 q25 => ?_)
    refine r_iadd (pc := 28) X dX5_carryOrTell_28 ?_
    refine r_min (pc := 29) X rfl dX5_carryOrTell_29 tx_5_125 (Nat.le_of_ble_eq_true rfl) ?_
    refine r_max (pc := 32) X rfl dX5_carryOrTell_32 tx_5_84 (Nat.le_of_ble_eq_true rfl) ?_
    refine r_putiW (pc := 35) X dX5_carryOrTell_35 tf_5_59 rfl (Or.inl rfl) S.c0 ⟨rfl, rfl⟩ ?_
    refine r_aload_n (pc := 38) X dX5_carryOrTell_38 rfl ?_
    refine r_iload_n (pc := 39) X dX5_carryOrTell_39 rfl ?_
    refine r_putiW (pc := 40) X dX5_carryOrTell_40 tf_5_56 rfl (Or.inl rfl) S.c0 ⟨rfl, rfl⟩ ?_
    refine r_iconst (pc := 43) (v := (nI 0)) X dX5_carryOrTell_43 (by decide) ?_
    refine r_iret (pc := 44) X dX5_carryOrTell_44 rfl rfl ?_
    have c11 : ¬ reachF E (Sv M o) p < wayF (Sv M o) p q := c11
    refine ⟨⟨_, _, rfl, rfl, ?_, ?_⟩, rfl⟩
    · rw [carryF, if_neg c11]
    · rw [carryF, if_neg c11]
      exact (show mx (nI 0) (mn (nI 999) (M o 8 + r25)) = mx (nI 0) (mn (nI 999) ((Sv M o) 0 8 + rainF E (Sv M o) p)) by rw [q25.1]; rfl) ▸ (q25.2.u0).u0
