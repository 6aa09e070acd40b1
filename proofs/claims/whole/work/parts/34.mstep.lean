/-! the reference's rain -/
theorem sst_inv {cap : Nat} {f : Nat → Int32} {c : Nat} {st s2 : List Bool} (h : sst cap f c st = some s2) : (c / 65536 ≤ 2 ∧ st.length < cap ∧ s2 = tsF f c :: st) ∨ (c / 65536 = 3 ∧ ∃ a b r, st = a :: b :: r ∧ s2 = (b && a) :: r) ∨ (c / 65536 = 4 ∧ ∃ a b r, st = a :: b :: r ∧ s2 = (b || a) :: r) ∨ (c / 65536 = 5 ∧ ∃ a r, st = a :: r ∧ s2 = (!a) :: r) := by
  unfold sst at h
  split at h
  · rename_i c1
    split at h
    · rename_i c2
      cases h
      exact Or.inl ⟨c1, c2, rfl⟩
    · cases h
  · split at h
    · rename_i c1
      split at h
      · cases h
        exact Or.inr (Or.inl ⟨c1, _, _, _, rfl, rfl⟩)
      · cases h
    · split at h
      · rename_i c1
        split at h
        · cases h
          exact Or.inr (Or.inr (Or.inl ⟨c1, _, _, _, rfl, rfl⟩))
        · cases h
      · split at h
        · rename_i c1
          split at h
          · cases h
            exact Or.inr (Or.inr (Or.inr ⟨c1, _, _, rfl, rfl⟩))
          · cases h
        · cases h
theorem sRun_inv {cap : Nat} {f : Nat → Int32} {c : Nat} {cs : List Nat} {st s3 : List Bool} (h : sRun cap f (c :: cs) st = some s3) : ∃ s2, sst cap f c st = some s2 ∧ sRun cap f cs s2 = some s3 := by
  unfold sRun at h
  cases e : sst cap f c st with
  | none => rw [e] at h; cases h
  | some s2 => rw [e] at h; exact ⟨s2, rfl, h⟩
def PileR (g : Nat → Int32) : List Bool → Prop
  | [] => True
  | b :: r => g r.length = b2 b ∧ PileR g r
theorem PileR.put {g : Nat → Int32} {k : Nat} {x : Int32} : ∀ {st : List Bool}, PileR g st → st.length ≤ k → PileR (upd g k x) st := by
  intro st
  induction st with
  | nil => intro _ _; exact trivial
  | cons b r ih =>
    intro h hk
    have hk : r.length + 1 ≤ k := hk
    exact ⟨(pk_un (by omega)).trans h.1, ih h.2 (by omega)⟩
theorem tr_33 : (-33 : Int32) < 0 ∧ (-38 : Int32) < 0 ∧ (-124 : Int32) < 0 ∧ ¬ (-38 : Int32) = -33 ∧ ¬ (-124 : Int32) = -33 ∧ ¬ (-124 : Int32) = -38 := by decide
theorem tr_t {s t v : Nat} (hs : s ≤ 2) (ht : t ≤ 5) (hv : v ≤ 99) : trF (s * 65536 + t * 256 + v) = nI (1000 * t + 100 * s + v) := by
  unfold trF
  have e1 : (s * 65536 + t * 256 + v) / 65536 = s := by omega
  have e2 : (s * 65536 + t * 256 + v) / 256 % 256 = t := by omega
  have e3 : (s * 65536 + t * 256 + v) % 256 = v := by omega
  rw [e1, e2, e3, if_pos hs]
theorem ts_t {f : Nat → Int32} {s t v : Nat} (hs : s ≤ 2) (ht : t ≤ 5) (hv : v ≤ 99) : tsF f (s * 65536 + t * 256 + v) = (if s = 0 then !decide (nI v ≤ f t) else if s = 1 then decide (f t = nI v) else !decide (f t ≤ nI v)) := by
  unfold tsF
  have e1 : (s * 65536 + t * 256 + v) / 65536 = s := by omega
  have e2 : (s * 65536 + t * 256 + v) / 256 % 256 = t := by omega
  have e3 : (s * 65536 + t * 256 + v) % 256 = v := by omega
  rw [e1, e2, e3]
  rcases (show s = 0 ∨ s = 1 ∨ s = 2 by omega) with rfl | rfl | rfl <;> rfl
set_option maxRecDepth 10000 in
set_option maxHeartbeats 4000000 in
theorem m_fact : ∀ (d : Nat) {V : VT} {h : hp_T} {M : Mem} (C : CS h) (S : MSt V M) {l p : Nat} (hl : l ≤ 5) (hp : p < 6), Ep d nX8_factOf [.ref 80, .int (nI l), .int (nI p)] (wi h M) (.int (factsF V p l)) := by
  intro d V h M C S l p hl hp
  refine Ex.of mm_X8_factOf (Nat.le_of_ble_eq_true rfl) fun w κ X hk hnm => ?_
  refine r_iload_n (pc := 0) X dX8_factOf_0 rfl ?_
  refine sw_X8_factOf_1 X (fun z1 => ?_) (fun z1 => ?_) (fun z1 => ?_) (fun z1 => ?_) (fun z1 => ?_) (fun z1 => ?_)
  · refine r_iload_n (pc := 36) X dX8_factOf_36 rfl ?_
    refine r_iret (pc := 37) X dX8_factOf_37 rfl rfl ?_
    have e := (nI_eq (by omega) (by omega)).mp z1
    subst e
    exact ⟨⟨rfl, rfl⟩, rfl⟩
  · refine r_aload_n (pc := 38) X dX8_factOf_38 rfl ?_
    refine r_getr (pc := 39) X dX8_factOf_39 tf_8_25 rfl (kc_80 C) (rc_80_5 C) ?_
    refine r_iload_n (pc := 42) X dX8_factOf_42 rfl ?_
    refine r_ialdW (pc := 43) X dX8_factOf_43 (kc_81 C) rfl hp (by omega) (S.a1 p) ?_
    refine r_iret (pc := 44) X dX8_factOf_44 rfl rfl ?_
    have e := (nI_eq (by omega) (by omega)).mp z1
    subst e
    exact ⟨⟨rfl, rfl⟩, rfl⟩
  · refine r_aload_n (pc := 45) X dX8_factOf_45 rfl ?_
    refine r_getr (pc := 46) X dX8_factOf_46 tf_8_32 rfl (kc_80 C) (rc_80_7 C) ?_
    refine r_iload_n (pc := 49) X dX8_factOf_49 rfl ?_
    refine r_ialdW (pc := 50) X dX8_factOf_50 (kc_83 C) rfl hp (by omega) (S.a3 p) ?_
    refine r_iret (pc := 51) X dX8_factOf_51 rfl rfl ?_
    have e := (nI_eq (by omega) (by omega)).mp z1
    subst e
    exact ⟨⟨rfl, rfl⟩, rfl⟩
  · refine r_aload_n (pc := 52) X dX8_factOf_52 rfl ?_
    refine r_getr (pc := 53) X dX8_factOf_53 tf_8_35 rfl (kc_80 C) (rc_80_8 C) ?_
    refine r_iload_n (pc := 56) X dX8_factOf_56 rfl ?_
    refine r_ialdW (pc := 57) X dX8_factOf_57 (kc_84 C) rfl hp (by omega) (S.a4 p) ?_
    refine r_iret (pc := 58) X dX8_factOf_58 rfl rfl ?_
    have e := (nI_eq (by omega) (by omega)).mp z1
    subst e
    exact ⟨⟨rfl, rfl⟩, rfl⟩
  · refine r_aload_n (pc := 59) X dX8_factOf_59 rfl ?_
    refine r_getiW (pc := 60) X dX8_factOf_60 tf_8_19 rfl (kc_80 C) S.2.2.2.1 ?_
    refine r_bipush (pc := 63) (v := (nI 10)) X dX8_factOf_63 (by decide) ?_
    refine r_idiv (pc := 65) X dX8_factOf_65 (by decide) ?_
    refine r_iret (pc := 66) X dX8_factOf_66 rfl rfl ?_
    have e := (nI_eq (by omega) (by omega)).mp z1
    subst e
    exact ⟨⟨rfl, rfl⟩, rfl⟩
  · refine r_aload_n (pc := 67) X dX8_factOf_67 rfl ?_
    refine r_getiW (pc := 68) X dX8_factOf_68 tf_8_13 rfl (kc_80 C) S.2.1 ?_
    refine r_bipush (pc := 71) (v := (nI 10)) X dX8_factOf_71 (by decide) ?_
    refine r_irem (pc := 73) X dX8_factOf_73 (by decide) ?_
    refine r_iret (pc := 74) X dX8_factOf_74 rfl rfl ?_
    obtain ⟨z0, z1, z2, z3, z4⟩ := z1
    rcases (show l = 0 ∨ l = 1 ∨ l = 2 ∨ l = 3 ∨ l = 4 ∨ l = 5 by omega) with rfl | rfl | rfl | rfl | rfl | rfl
    · exact absurd rfl z0
    · exact absurd rfl z1
    · exact absurd rfl z2
    · exact absurd rfl z3
    · exact absurd rfl z4
    · exact ⟨⟨rfl, rfl⟩, rfl⟩
theorem MSt.o96 {V : VT} {M M1 : Mem} (S : MSt V M) (k : ∀ b, b ≠ 96 → M1 b = M b) : MSt V M1 := by
  unfold MSt
  rw [k 80 (by omega)]
  refine ⟨S.1, S.2.1, S.2.2.1, S.2.2.2.1, S.2.2.2.2.1, fun f h1 h2 => ?_⟩
  rw [k (80 + f) (by omega)]
  exact S.2.2.2.2.2 f h1 h2
set_option maxRecDepth 10000 in
set_option maxHeartbeats 4000000 in
theorem lm_holds : ∀ (d : Nat) {V : VT} {h : hp_T} {M : Mem} (C : CS h) (S : MSt V M) {p c e : Nat} {v : Bool} (hp : p < 6) (hc : c < 60) (he : e ≤ 600) (hto : M 92 c = nI e) {w : wc_T} {κ : cx_T} {Φ : Option Value → hp_T → Prop} (X : CX w κ (d + 1) 8 cX8_holds 8 (some .boolean) Φ)
    (hΦ : ∀ M1, (∀ b, b ≠ 96 → M1 b = M b) → Φ (some (.int (b2 v))) (wi h M1)),
    ∀ (cs : List Nat) (i : Nat) (st : List Bool) (M1 : Mem) (x5 x6 x7 : Option Value), i + cs.length = e → okN cs → (∀ j, j < cs.length → M 93 (i + j) = trF (cs.getD j 0)) → st.length ≤ 11 → sRun 11 (factsF V p) cs st = some [v] → PileR (M1 96) st → (∀ b, b ≠ 96 → M1 b = M b) →
      GG w κ 10 [some (.ref 80), some (.int (nI c)), some (.int (nI p)), some (.int (nI st.length)), some (.int (nI i)), x5, x6, x7] [] (wi h M1) := by
  intro d V h M C S p c e v hp hc he hto w κ Φ X hΦ cs
  induction cs with
  | nil =>
    intro i st M1 x5 x6 x7 hi hok hcs hst hr hp1 hk
    have hto1 : M1 92 c = nI e := by rw [hk 92 (by omega)]; exact hto
    have hi : i = e := hi
    subst hi
    have hr : some st = some [v] := hr
    cases hr
    have hv : M1 96 0 = b2 v := hp1.1
    refine r_iload (pc := 10) X dX8_holds_10 rfl ?_
    refine r_aload_n (pc := 12) X dX8_holds_12 rfl ?_
    refine r_getr (pc := 13) X dX8_holds_13 tf_8_74 rfl (kc_80 C) (rc_80_21 C) ?_
    refine r_iload_n (pc := 16) X dX8_holds_16 rfl ?_
    refine r_ialdW (pc := 17) X dX8_holds_17 (kc_92 C) rfl hc (by omega) hto1 ?_
    refine r_icmp_geN (pc := 18) X dX8_holds_18 (tgt := 243) (by decide) (by omega) (by omega) (fun c18 => ?_) (fun c18 => ?_)
    · refine r_aload_n (pc := 243) X dX8_holds_243 rfl ?_
      refine r_getr (pc := 244) X dX8_holds_244 tf_8_95 rfl (kc_80 C) (rc_80_28 C) ?_
      refine r_iconst (pc := 247) (v := (nI 0)) X dX8_holds_247 (by decide) ?_
      refine r_zaldW (pc := 248) X dX8_holds_248 (kc_96 C) (j := 0) rfl (by omega) (by omega) hv ?_
      refine r_iret (pc := 249) X dX8_holds_249 rfl (b2_nar _) ?_
      exact hΦ M1 hk
    · exact absurd (Nat.le_refl _) c18
  | cons q cs ih =>
    intro i st M1 x5 x6 x7 hi hok hcs hst hr hp1 hk
    have hto1 : M1 92 c = nI e := by rw [hk 92 (by omega)]; exact hto
    have hi : i + (cs.length + 1) = e := hi
    obtain ⟨s2, e2, hr2⟩ := sRun_inv hr
    have hq : M 93 i = trF q := hcs 0 (Nat.zero_lt_succ _)
    have hq1 : M1 93 i = trF q := by rw [hk 93 (by omega)]; exact hq
    have hok2 : okN cs := fun y hy => hok y (List.mem_cons_of_mem _ hy)
    have hcs2 : ∀ j, j < cs.length → M 93 (i + 1 + j) = trF (cs.getD j 0) := fun j hj => by
      have := hcs (j + 1) (Nat.succ_lt_succ hj)
      rw [show i + 1 + j = i + (j + 1) by omega]
      exact this
    have next : ∀ (r : List Bool) (b : Bool) (y5 y6 y7 : Option Value) (x : Int32) (k : Nat), k = r.length → x = b2 b → s2 = b :: r → r.length < 11 → PileR (M1 96) r → GG w κ 10 [some (.ref 80), some (.int (nI c)), some (.int (nI p)), some (.int (nI (r.length + 1))), some (.int (nI (i + 1))), y5, y6, y7] [] (wi h (mU M1 96 (upd (M1 96) k x))) := by
      intro r b y5 y6 y7 x k ek ex es hr1 hpr
      subst ek
      subst ex
      subst es
      exact ih (i + 1) (b :: r) _ y5 y6 y7 (by omega) hok2 hcs2 (by show r.length + 1 ≤ 11; omega) hr2 ⟨by rw [mU_eq]; exact pk_us, by rw [mU_eq]; exact hpr.put (Nat.le_refl _)⟩ (fun b2 hb => by rw [mU_ne hb]; exact hk b2 hb)
    rcases sst_inv e2 with ⟨g1, g2, g3⟩ | ⟨g1, a, b, r, rfl, g3⟩ | ⟨g1, a, b, r, rfl, g3⟩ | ⟨g1, a, r, rfl, g3⟩
    · obtain ⟨s, t, u, hs7, ht, hu, eq⟩ := hok q List.mem_cons_self
      have hs : s ≤ 2 := by omega
      have hq2 : M1 93 i = nI (1000 * t + 100 * s + u) := by rw [hq1, eq]; exact tr_t hs ht hu
      have et := ts_t (f := factsF V p) hs ht hu
      rw [← eq] at et
      refine r_iload (pc := 10) X dX8_holds_10 rfl ?_
      refine r_aload_n (pc := 12) X dX8_holds_12 rfl ?_
      refine r_getr (pc := 13) X dX8_holds_13 tf_8_74 rfl (kc_80 C) (rc_80_21 C) ?_
      refine r_iload_n (pc := 16) X dX8_holds_16 rfl ?_
      refine r_ialdW (pc := 17) X dX8_holds_17 (kc_92 C) rfl hc (by omega) hto1 ?_
      refine r_icmp_geN (pc := 18) X dX8_holds_18 (tgt := 243) (by decide) (by omega) (by omega) (fun c18 => ?_) (fun c18 => ?_)
      · exact absurd c18 (by omega)
      · refine r_aload_n (pc := 21) X dX8_holds_21 rfl ?_
        refine r_getr (pc := 22) X dX8_holds_22 tf_8_77 rfl (kc_80 C) (rc_80_22 C) ?_
        refine r_iload (pc := 25) X dX8_holds_25 rfl ?_
        refine r_ialdW (pc := 27) X dX8_holds_27 (kc_93 C) rfl (show i < 600 by omega) (by omega) hq2 ?_
        refine r_istore (pc := 28) X dX8_holds_28 (Nat.le_of_ble_eq_true rfl) ?_
        refine r_iload (pc := 30) X dX8_holds_30 rfl ?_
        refine r_bipush (pc := 32) (v := (-33)) X dX8_holds_32 (by decide) ?_
        refine r_icmp_ne (pc := 34) X dX8_holds_34 (tgt := 64) (by decide) (fun c34 => ?_) (fun c34 => ?_)
        · refine r_iload (pc := 64) X dX8_holds_64 rfl ?_
          refine r_if_ge (pc := 66) X dX8_holds_66 (tgt := 143) (by decide) (fun c66 => ?_) (fun c66 => ?_)
          · refine r_aload_n (pc := 143) X dX8_holds_143 rfl ?_
            refine r_iload (pc := 144) X dX8_holds_144 rfl ?_
            refine r_sipush (pc := 146) (v := (nI 1000)) X dX8_holds_146 (by decide) ?_
            refine r_idiv (pc := 149) X dX8_holds_149 (by decide) ?_
            refine r_top (pk_div (by omega) (by omega) (by omega)) ?_
            rw [show (1000 * t + 100 * s + u) / 1000 = t by omega]
            refine r_iload_n (pc := 150) X dX8_holds_150 rfl ?_
            refine r_c0_2P (pc := 151) X rfl dX8_holds_151 tc_8_309 mm_X8_factOf (kc_80 C) rfl rfl (m_fact d C (S.o96 hk) ht hp) (Nat.le_of_ble_eq_true rfl) ?_
            refine r_istore (pc := 154) X dX8_holds_154 (Nat.le_of_ble_eq_true rfl) ?_
            refine r_iload (pc := 156) X dX8_holds_156 rfl ?_
            refine r_bipush (pc := 158) (v := (nI 100)) X dX8_holds_158 (by decide) ?_
            refine r_idiv (pc := 160) X dX8_holds_160 (by decide) ?_
            refine r_top (pk_div (by omega) (by omega) (by omega)) ?_
            refine r_bipush (pc := 161) (v := (nI 10)) X dX8_holds_161 (by decide) ?_
            refine r_irem (pc := 163) X dX8_holds_163 (by decide) ?_
            refine r_top (pk_rem (by omega) (by omega) (by omega)) ?_
            rw [show (1000 * t + 100 * s + u) / 100 % 10 = s by omega]
            refine r_istore (pc := 164) X dX8_holds_164 (Nat.le_of_ble_eq_true rfl) ?_
            refine r_aload_n (pc := 166) X dX8_holds_166 rfl ?_
            refine r_getr (pc := 167) X dX8_holds_167 tf_8_95 rfl (kc_80 C) (rc_80_28 C) ?_
            refine r_iload_n (pc := 170) X dX8_holds_170 rfl ?_
            refine r_iload (pc := 171) X dX8_holds_171 rfl ?_
            refine r_if_ne (pc := 173) X dX8_holds_173 (tgt := 194) (by decide) (fun c173 => ?_) (fun c173 => ?_)
            · refine r_iload (pc := 194) X dX8_holds_194 rfl ?_
              refine r_iconst (pc := 196) (v := (nI 1)) X dX8_holds_196 (by decide) ?_
              refine r_icmp_ne (pc := 197) X dX8_holds_197 (tgt := 218) (by decide) (fun c197 => ?_) (fun c197 => ?_)
              · refine r_iload (pc := 218) X dX8_holds_218 rfl ?_
                refine r_iload (pc := 220) X dX8_holds_220 rfl ?_
                refine r_bipush (pc := 222) (v := (nI 100)) X dX8_holds_222 (by decide) ?_
                refine r_irem (pc := 224) X dX8_holds_224 (by decide) ?_
                refine r_top (pk_rem (by omega) (by omega) (by omega)) ?_
                rw [show (1000 * t + 100 * s + u) % 100 = u by omega]
                refine r_icmp_le (pc := 225) X dX8_holds_225 (tgt := 232) (by decide) (fun c225 => ?_) (fun c225 => ?_)
                · refine r_iconst (pc := 232) (v := (nI 0)) X dX8_holds_232 (by decide) ?_
                  refine r_zastW (pc := 233) X dX8_holds_233 (kc_96 C) rfl (show st.length < 100 by omega) (by omega) rfl ?_
                  refine r_iinc (pc := 234) X dX8_holds_234 rfl (by first | exact nI_i1 _ | rfl) ?_
                  refine r_iinc (pc := 237) X dX8_holds_237 rfl (by first | exact nI_i1 _ | rfl) ?_
                  refine r_goto (pc := 240) X dX8_holds_240 (tgt := 10) (by decide) ?_
                  have e0 : nI 0 = b2 (tsF (factsF V p) q) := by
                    rw [et]
                    rw [if_neg (show ¬ s = 0 from fun z => c173 (by rw [z]; rfl)), if_neg (show ¬ s = 1 from fun z => c197 (by rw [z])), decide_eq_true c225]; rfl
                  exact next st (tsF (factsF V p) q) _ _ _ _ _ rfl e0 g3 g2 hp1
                · refine r_iconst (pc := 228) (v := (nI 1)) X dX8_holds_228 (by decide) ?_
                  refine r_goto (pc := 229) X dX8_holds_229 (tgt := 233) (by decide) ?_
                  refine r_zastW (pc := 233) X dX8_holds_233 (kc_96 C) rfl (show st.length < 100 by omega) (by omega) rfl ?_
                  refine r_iinc (pc := 234) X dX8_holds_234 rfl (by first | exact nI_i1 _ | rfl) ?_
                  refine r_iinc (pc := 237) X dX8_holds_237 rfl (by first | exact nI_i1 _ | rfl) ?_
                  refine r_goto (pc := 240) X dX8_holds_240 (tgt := 10) (by decide) ?_
                  have e0 : nI 1 = b2 (tsF (factsF V p) q) := by
                    rw [et]
                    rw [if_neg (show ¬ s = 0 from fun z => c173 (by rw [z]; rfl)), if_neg (show ¬ s = 1 from fun z => c197 (by rw [z])), decide_eq_false c225]; rfl
                  exact next st (tsF (factsF V p) q) _ _ _ _ _ rfl e0 g3 g2 hp1
              · refine r_iload (pc := 200) X dX8_holds_200 rfl ?_
                refine r_iload (pc := 202) X dX8_holds_202 rfl ?_
                refine r_bipush (pc := 204) (v := (nI 100)) X dX8_holds_204 (by decide) ?_
                refine r_irem (pc := 206) X dX8_holds_206 (by decide) ?_
                refine r_top (pk_rem (by omega) (by omega) (by omega)) ?_
                rw [show (1000 * t + 100 * s + u) % 100 = u by omega]
                refine r_icmp_ne (pc := 207) X dX8_holds_207 (tgt := 214) (by decide) (fun c207 => ?_) (fun c207 => ?_)
                · refine r_iconst (pc := 214) (v := (nI 0)) X dX8_holds_214 (by decide) ?_
                  refine r_goto (pc := 215) X dX8_holds_215 (tgt := 233) (by decide) ?_
                  refine r_zastW (pc := 233) X dX8_holds_233 (kc_96 C) rfl (show st.length < 100 by omega) (by omega) rfl ?_
                  refine r_iinc (pc := 234) X dX8_holds_234 rfl (by first | exact nI_i1 _ | rfl) ?_
                  refine r_iinc (pc := 237) X dX8_holds_237 rfl (by first | exact nI_i1 _ | rfl) ?_
                  refine r_goto (pc := 240) X dX8_holds_240 (tgt := 10) (by decide) ?_
                  have e0 : nI 0 = b2 (tsF (factsF V p) q) := by
                    rw [et]
                    rw [if_neg (show ¬ s = 0 from fun z => c173 (by rw [z]; rfl)), if_pos (show s = 1 from (nI_eq (by omega) (by omega)).mp c197), decide_eq_false c207]; rfl
                  exact next st (tsF (factsF V p) q) _ _ _ _ _ rfl e0 g3 g2 hp1
                · refine r_iconst (pc := 210) (v := (nI 1)) X dX8_holds_210 (by decide) ?_
                  refine r_goto (pc := 211) X dX8_holds_211 (tgt := 233) (by decide) ?_
                  refine r_zastW (pc := 233) X dX8_holds_233 (kc_96 C) rfl (show st.length < 100 by omega) (by omega) rfl ?_
                  refine r_iinc (pc := 234) X dX8_holds_234 rfl (by first | exact nI_i1 _ | rfl) ?_
                  refine r_iinc (pc := 237) X dX8_holds_237 rfl (by first | exact nI_i1 _ | rfl) ?_
                  refine r_goto (pc := 240) X dX8_holds_240 (tgt := 10) (by decide) ?_
                  have e0 : nI 1 = b2 (tsF (factsF V p) q) := by
                    rw [et]
                    rw [if_neg (show ¬ s = 0 from fun z => c173 (by rw [z]; rfl)), if_pos (show s = 1 from (nI_eq (by omega) (by omega)).mp c197), decide_eq_true c207]; rfl
                  exact next st (tsF (factsF V p) q) _ _ _ _ _ rfl e0 g3 g2 hp1
            · refine r_iload (pc := 176) X dX8_holds_176 rfl ?_
              refine r_iload (pc := 178) X dX8_holds_178 rfl ?_
              refine r_bipush (pc := 180) (v := (nI 100)) X dX8_holds_180 (by decide) ?_
              refine r_irem (pc := 182) X dX8_holds_182 (by decide) ?_
              refine r_top (pk_rem (by omega) (by omega) (by omega)) ?_
              rw [show (1000 * t + 100 * s + u) % 100 = u by omega]
              refine r_icmp_ge (pc := 183) X dX8_holds_183 (tgt := 190) (by decide) (fun c183 => ?_) (fun c183 => ?_)
              · refine r_iconst (pc := 190) (v := (nI 0)) X dX8_holds_190 (by decide) ?_
                refine r_goto (pc := 191) X dX8_holds_191 (tgt := 233) (by decide) ?_
                refine r_zastW (pc := 233) X dX8_holds_233 (kc_96 C) rfl (show st.length < 100 by omega) (by omega) rfl ?_
                refine r_iinc (pc := 234) X dX8_holds_234 rfl (by first | exact nI_i1 _ | rfl) ?_
                refine r_iinc (pc := 237) X dX8_holds_237 rfl (by first | exact nI_i1 _ | rfl) ?_
                refine r_goto (pc := 240) X dX8_holds_240 (tgt := 10) (by decide) ?_
                have e0 : nI 0 = b2 (tsF (factsF V p) q) := by
                  rw [et]
                  rw [if_pos (show s = 0 from Decidable.byContradiction fun z => absurd c173 (nI_ne0 (by omega) (by omega))), decide_eq_true c183]; rfl
                exact next st (tsF (factsF V p) q) _ _ _ _ _ rfl e0 g3 g2 hp1
              · refine r_iconst (pc := 186) (v := (nI 1)) X dX8_holds_186 (by decide) ?_
                refine r_goto (pc := 187) X dX8_holds_187 (tgt := 233) (by decide) ?_
                refine r_zastW (pc := 233) X dX8_holds_233 (kc_96 C) rfl (show st.length < 100 by omega) (by omega) rfl ?_
                refine r_iinc (pc := 234) X dX8_holds_234 rfl (by first | exact nI_i1 _ | rfl) ?_
                refine r_iinc (pc := 237) X dX8_holds_237 rfl (by first | exact nI_i1 _ | rfl) ?_
                refine r_goto (pc := 240) X dX8_holds_240 (tgt := 10) (by decide) ?_
                have e0 : nI 1 = b2 (tsF (factsF V p) q) := by
                  rw [et]
                  rw [if_pos (show s = 0 from Decidable.byContradiction fun z => absurd c173 (nI_ne0 (by omega) (by omega))), decide_eq_false c183]; rfl
                exact next st (tsF (factsF V p) q) _ _ _ _ _ rfl e0 g3 g2 hp1
          · exact absurd (nI_pos' (by omega)) c66
        · exact absurd c34.symm (fun z => nI_pos (n := 1000 * t + 100 * s + u) (by omega) (by rw [← z]; decide))
    · have hq2 : M1 93 i = (-38) := by rw [hq1]; unfold trF; rw [if_neg (by omega), if_pos g1]
      have hl : r.length + 2 ≤ 11 := hst
      have h1 : M1 96 r.length = b2 b := hp1.2.1
      have h2 : M1 96 (r.length + 1) = b2 a := hp1.1
      show GG w κ 10 [some (.ref 80), some (.int (nI c)), some (.int (nI p)), some (.int (nI (r.length + 2))), some (.int (nI i)), x5, x6, x7] [] (wi h M1)
      refine r_iload (pc := 10) X dX8_holds_10 rfl ?_
      refine r_aload_n (pc := 12) X dX8_holds_12 rfl ?_
      refine r_getr (pc := 13) X dX8_holds_13 tf_8_74 rfl (kc_80 C) (rc_80_21 C) ?_
      refine r_iload_n (pc := 16) X dX8_holds_16 rfl ?_
      refine r_ialdW (pc := 17) X dX8_holds_17 (kc_92 C) rfl hc (by omega) hto1 ?_
      refine r_icmp_geN (pc := 18) X dX8_holds_18 (tgt := 243) (by decide) (by omega) (by omega) (fun c18 => ?_) (fun c18 => ?_)
      · exact absurd c18 (by omega)
      · refine r_aload_n (pc := 21) X dX8_holds_21 rfl ?_
        refine r_getr (pc := 22) X dX8_holds_22 tf_8_77 rfl (kc_80 C) (rc_80_22 C) ?_
        refine r_iload (pc := 25) X dX8_holds_25 rfl ?_
        refine r_ialdW (pc := 27) X dX8_holds_27 (kc_93 C) rfl (show i < 600 by omega) (by omega) hq2 ?_
        refine r_istore (pc := 28) X dX8_holds_28 (Nat.le_of_ble_eq_true rfl) ?_
        refine r_iload (pc := 30) X dX8_holds_30 rfl ?_
        refine r_bipush (pc := 32) (v := (-33)) X dX8_holds_32 (by decide) ?_
        refine r_icmp_ne (pc := 34) X dX8_holds_34 (tgt := 64) (by decide) (fun c34 => ?_) (fun c34 => ?_)
        · refine r_iload (pc := 64) X dX8_holds_64 rfl ?_
          refine r_if_ge (pc := 66) X dX8_holds_66 (tgt := 143) (by decide) (fun c66 => ?_) (fun c66 => ?_)
          · exact absurd c66 (by decide)
          · refine r_iinc (pc := 69) X dX8_holds_69 rfl (pk_m1 (r.length + 1)) ?_
            refine r_aload_n (pc := 72) X dX8_holds_72 rfl ?_
            refine r_getr (pc := 73) X dX8_holds_73 tf_8_95 rfl (kc_80 C) (rc_80_28 C) ?_
            refine r_iload_n (pc := 76) X dX8_holds_76 rfl ?_
            refine r_iconst (pc := 77) (v := (nI 1)) X dX8_holds_77 (by decide) ?_
            refine r_isub (pc := 78) X dX8_holds_78 ?_
            refine r_top (nI_subn (a := r.length + 1) (b := 1) (by omega)) ?_
            refine r_iload (pc := 79) X dX8_holds_79 rfl ?_
            refine r_bipush (pc := 81) (v := (-38)) X dX8_holds_81 (by decide) ?_
            refine r_icmp_ne (pc := 83) X dX8_holds_83 (tgt := 114) (by decide) (fun c83 => ?_) (fun c83 => ?_)
            · exact absurd rfl c83
            · refine r_aload_n (pc := 86) X dX8_holds_86 rfl ?_
              refine r_getr (pc := 87) X dX8_holds_87 tf_8_95 rfl (kc_80 C) (rc_80_28 C) ?_
              refine r_iload_n (pc := 90) X dX8_holds_90 rfl ?_
              refine r_iconst (pc := 91) (v := (nI 1)) X dX8_holds_91 (by decide) ?_
              refine r_isub (pc := 92) X dX8_holds_92 ?_
              refine r_top (nI_subn (a := r.length + 1) (b := 1) (by omega)) ?_
              refine r_zaldW (pc := 93) X dX8_holds_93 (kc_96 C) rfl (show r.length < 100 by omega) (by omega) h1 ?_
              refine r_if_eqB (pc := 94) X dX8_holds_94 (tgt := 110) (by decide) (fun c94 => ?_) (fun c94 => ?_)
              · refine r_iconst (pc := 110) (v := (nI 0)) X dX8_holds_110 (by decide) ?_
                refine r_goto (pc := 111) X dX8_holds_111 (tgt := 139) (by decide) ?_
                refine r_zastW (pc := 139) X dX8_holds_139 (kc_96 C) rfl (show r.length < 100 by omega) (by omega) rfl ?_
                refine r_goto (pc := 140) X dX8_holds_140 (tgt := 237) (by decide) ?_
                refine r_iinc (pc := 237) X dX8_holds_237 rfl (by first | exact nI_i1 _ | rfl) ?_
                refine r_goto (pc := 240) X dX8_holds_240 (tgt := 10) (by decide) ?_
                exact next r (b && a) _ _ _ _ _ rfl (by rw [c94]; cases a <;> rfl) g3 (by omega) hp1.2.2
              · refine r_aload_n (pc := 97) X dX8_holds_97 rfl ?_
                refine r_getr (pc := 98) X dX8_holds_98 tf_8_95 rfl (kc_80 C) (rc_80_28 C) ?_
                refine r_iload_n (pc := 101) X dX8_holds_101 rfl ?_
                refine r_zaldW (pc := 102) X dX8_holds_102 (kc_96 C) rfl (show r.length + 1 < 100 by omega) (by omega) h2 ?_
                refine r_if_eqB (pc := 103) X dX8_holds_103 (tgt := 110) (by decide) (fun c103 => ?_) (fun c103 => ?_)
                · refine r_iconst (pc := 110) (v := (nI 0)) X dX8_holds_110 (by decide) ?_
                  refine r_goto (pc := 111) X dX8_holds_111 (tgt := 139) (by decide) ?_
                  refine r_zastW (pc := 139) X dX8_holds_139 (kc_96 C) rfl (show r.length < 100 by omega) (by omega) rfl ?_
                  refine r_goto (pc := 140) X dX8_holds_140 (tgt := 237) (by decide) ?_
                  refine r_iinc (pc := 237) X dX8_holds_237 rfl (by first | exact nI_i1 _ | rfl) ?_
                  refine r_goto (pc := 240) X dX8_holds_240 (tgt := 10) (by decide) ?_
                  exact next r (b && a) _ _ _ _ _ rfl (by rw [c94, c103]; rfl) g3 (by omega) hp1.2.2
                · refine r_iconst (pc := 106) (v := (nI 1)) X dX8_holds_106 (by decide) ?_
                  refine r_goto (pc := 107) X dX8_holds_107 (tgt := 139) (by decide) ?_
                  refine r_zastW (pc := 139) X dX8_holds_139 (kc_96 C) rfl (show r.length < 100 by omega) (by omega) rfl ?_
                  refine r_goto (pc := 140) X dX8_holds_140 (tgt := 237) (by decide) ?_
                  refine r_iinc (pc := 237) X dX8_holds_237 rfl (by first | exact nI_i1 _ | rfl) ?_
                  refine r_goto (pc := 240) X dX8_holds_240 (tgt := 10) (by decide) ?_
                  exact next r (b && a) _ _ _ _ _ rfl (by rw [c94, c103]; rfl) g3 (by omega) hp1.2.2
        · exact absurd c34 (by decide)
    · have hq2 : M1 93 i = (-124) := by rw [hq1]; unfold trF; rw [if_neg (by omega), if_neg (by omega), if_pos g1]
      have hl : r.length + 2 ≤ 11 := hst
      have h1 : M1 96 r.length = b2 b := hp1.2.1
      have h2 : M1 96 (r.length + 1) = b2 a := hp1.1
      show GG w κ 10 [some (.ref 80), some (.int (nI c)), some (.int (nI p)), some (.int (nI (r.length + 2))), some (.int (nI i)), x5, x6, x7] [] (wi h M1)
      refine r_iload (pc := 10) X dX8_holds_10 rfl ?_
      refine r_aload_n (pc := 12) X dX8_holds_12 rfl ?_
      refine r_getr (pc := 13) X dX8_holds_13 tf_8_74 rfl (kc_80 C) (rc_80_21 C) ?_
      refine r_iload_n (pc := 16) X dX8_holds_16 rfl ?_
      refine r_ialdW (pc := 17) X dX8_holds_17 (kc_92 C) rfl hc (by omega) hto1 ?_
      refine r_icmp_geN (pc := 18) X dX8_holds_18 (tgt := 243) (by decide) (by omega) (by omega) (fun c18 => ?_) (fun c18 => ?_)
      · exact absurd c18 (by omega)
      · refine r_aload_n (pc := 21) X dX8_holds_21 rfl ?_
        refine r_getr (pc := 22) X dX8_holds_22 tf_8_77 rfl (kc_80 C) (rc_80_22 C) ?_
        refine r_iload (pc := 25) X dX8_holds_25 rfl ?_
        refine r_ialdW (pc := 27) X dX8_holds_27 (kc_93 C) rfl (show i < 600 by omega) (by omega) hq2 ?_
        refine r_istore (pc := 28) X dX8_holds_28 (Nat.le_of_ble_eq_true rfl) ?_
        refine r_iload (pc := 30) X dX8_holds_30 rfl ?_
        refine r_bipush (pc := 32) (v := (-33)) X dX8_holds_32 (by decide) ?_
        refine r_icmp_ne (pc := 34) X dX8_holds_34 (tgt := 64) (by decide) (fun c34 => ?_) (fun c34 => ?_)
        · refine r_iload (pc := 64) X dX8_holds_64 rfl ?_
          refine r_if_ge (pc := 66) X dX8_holds_66 (tgt := 143) (by decide) (fun c66 => ?_) (fun c66 => ?_)
          · exact absurd c66 (by decide)
          · refine r_iinc (pc := 69) X dX8_holds_69 rfl (pk_m1 (r.length + 1)) ?_
            refine r_aload_n (pc := 72) X dX8_holds_72 rfl ?_
            refine r_getr (pc := 73) X dX8_holds_73 tf_8_95 rfl (kc_80 C) (rc_80_28 C) ?_
            refine r_iload_n (pc := 76) X dX8_holds_76 rfl ?_
            refine r_iconst (pc := 77) (v := (nI 1)) X dX8_holds_77 (by decide) ?_
            refine r_isub (pc := 78) X dX8_holds_78 ?_
            refine r_top (nI_subn (a := r.length + 1) (b := 1) (by omega)) ?_
            refine r_iload (pc := 79) X dX8_holds_79 rfl ?_
            refine r_bipush (pc := 81) (v := (-38)) X dX8_holds_81 (by decide) ?_
            refine r_icmp_ne (pc := 83) X dX8_holds_83 (tgt := 114) (by decide) (fun c83 => ?_) (fun c83 => ?_)
            · refine r_aload_n (pc := 114) X dX8_holds_114 rfl ?_
              refine r_getr (pc := 115) X dX8_holds_115 tf_8_95 rfl (kc_80 C) (rc_80_28 C) ?_
              refine r_iload_n (pc := 118) X dX8_holds_118 rfl ?_
              refine r_iconst (pc := 119) (v := (nI 1)) X dX8_holds_119 (by decide) ?_
              refine r_isub (pc := 120) X dX8_holds_120 ?_
              refine r_top (nI_subn (a := r.length + 1) (b := 1) (by omega)) ?_
              refine r_zaldW (pc := 121) X dX8_holds_121 (kc_96 C) rfl (show r.length < 100 by omega) (by omega) h1 ?_
              refine r_if_neB (pc := 122) X dX8_holds_122 (tgt := 134) (by decide) (fun c122 => ?_) (fun c122 => ?_)
              · refine r_iconst (pc := 134) (v := (nI 1)) X dX8_holds_134 (by decide) ?_
                refine r_goto (pc := 135) X dX8_holds_135 (tgt := 139) (by decide) ?_
                refine r_zastW (pc := 139) X dX8_holds_139 (kc_96 C) rfl (show r.length < 100 by omega) (by omega) rfl ?_
                refine r_goto (pc := 140) X dX8_holds_140 (tgt := 237) (by decide) ?_
                refine r_iinc (pc := 237) X dX8_holds_237 rfl (by first | exact nI_i1 _ | rfl) ?_
                refine r_goto (pc := 240) X dX8_holds_240 (tgt := 10) (by decide) ?_
                exact next r (b || a) _ _ _ _ _ rfl (by rw [c122]; cases a <;> rfl) g3 (by omega) hp1.2.2
              · refine r_aload_n (pc := 125) X dX8_holds_125 rfl ?_
                refine r_getr (pc := 126) X dX8_holds_126 tf_8_95 rfl (kc_80 C) (rc_80_28 C) ?_
                refine r_iload_n (pc := 129) X dX8_holds_129 rfl ?_
                refine r_zaldW (pc := 130) X dX8_holds_130 (kc_96 C) rfl (show r.length + 1 < 100 by omega) (by omega) h2 ?_
                refine r_if_eqB (pc := 131) X dX8_holds_131 (tgt := 138) (by decide) (fun c131 => ?_) (fun c131 => ?_)
                · refine r_iconst (pc := 138) (v := (nI 0)) X dX8_holds_138 (by decide) ?_
                  refine r_zastW (pc := 139) X dX8_holds_139 (kc_96 C) rfl (show r.length < 100 by omega) (by omega) rfl ?_
                  refine r_goto (pc := 140) X dX8_holds_140 (tgt := 237) (by decide) ?_
                  refine r_iinc (pc := 237) X dX8_holds_237 rfl (by first | exact nI_i1 _ | rfl) ?_
                  refine r_goto (pc := 240) X dX8_holds_240 (tgt := 10) (by decide) ?_
                  exact next r (b || a) _ _ _ _ _ rfl (by rw [c122, c131]; rfl) g3 (by omega) hp1.2.2
                · refine r_iconst (pc := 134) (v := (nI 1)) X dX8_holds_134 (by decide) ?_
                  refine r_goto (pc := 135) X dX8_holds_135 (tgt := 139) (by decide) ?_
                  refine r_zastW (pc := 139) X dX8_holds_139 (kc_96 C) rfl (show r.length < 100 by omega) (by omega) rfl ?_
                  refine r_goto (pc := 140) X dX8_holds_140 (tgt := 237) (by decide) ?_
                  refine r_iinc (pc := 237) X dX8_holds_237 rfl (by first | exact nI_i1 _ | rfl) ?_
                  refine r_goto (pc := 240) X dX8_holds_240 (tgt := 10) (by decide) ?_
                  exact next r (b || a) _ _ _ _ _ rfl (by rw [c122, c131]; rfl) g3 (by omega) hp1.2.2
            · exact absurd c83 (by decide)
        · exact absurd c34 (by decide)
    · have hq2 : M1 93 i = (-33) := by rw [hq1]; unfold trF; rw [if_neg (by omega), if_neg (by omega), if_neg (by omega)]
      have hl : r.length + 1 ≤ 11 := hst
      have h1 : M1 96 r.length = b2 a := hp1.1
      show GG w κ 10 [some (.ref 80), some (.int (nI c)), some (.int (nI p)), some (.int (nI (r.length + 1))), some (.int (nI i)), x5, x6, x7] [] (wi h M1)
      refine r_iload (pc := 10) X dX8_holds_10 rfl ?_
      refine r_aload_n (pc := 12) X dX8_holds_12 rfl ?_
      refine r_getr (pc := 13) X dX8_holds_13 tf_8_74 rfl (kc_80 C) (rc_80_21 C) ?_
      refine r_iload_n (pc := 16) X dX8_holds_16 rfl ?_
      refine r_ialdW (pc := 17) X dX8_holds_17 (kc_92 C) rfl hc (by omega) hto1 ?_
      refine r_icmp_geN (pc := 18) X dX8_holds_18 (tgt := 243) (by decide) (by omega) (by omega) (fun c18 => ?_) (fun c18 => ?_)
      · exact absurd c18 (by omega)
      · refine r_aload_n (pc := 21) X dX8_holds_21 rfl ?_
        refine r_getr (pc := 22) X dX8_holds_22 tf_8_77 rfl (kc_80 C) (rc_80_22 C) ?_
        refine r_iload (pc := 25) X dX8_holds_25 rfl ?_
        refine r_ialdW (pc := 27) X dX8_holds_27 (kc_93 C) rfl (show i < 600 by omega) (by omega) hq2 ?_
        refine r_istore (pc := 28) X dX8_holds_28 (Nat.le_of_ble_eq_true rfl) ?_
        refine r_iload (pc := 30) X dX8_holds_30 rfl ?_
        refine r_bipush (pc := 32) (v := (-33)) X dX8_holds_32 (by decide) ?_
        refine r_icmp_ne (pc := 34) X dX8_holds_34 (tgt := 64) (by decide) (fun c34 => ?_) (fun c34 => ?_)
        · exact absurd rfl c34
        · refine r_aload_n (pc := 37) X dX8_holds_37 rfl ?_
          refine r_getr (pc := 38) X dX8_holds_38 tf_8_95 rfl (kc_80 C) (rc_80_28 C) ?_
          refine r_iload_n (pc := 41) X dX8_holds_41 rfl ?_
          refine r_iconst (pc := 42) (v := (nI 1)) X dX8_holds_42 (by decide) ?_
          refine r_isub (pc := 43) X dX8_holds_43 ?_
          refine r_top (nI_subn (a := r.length + 1) (b := 1) (by omega)) ?_
          refine r_aload_n (pc := 44) X dX8_holds_44 rfl ?_
          refine r_getr (pc := 45) X dX8_holds_45 tf_8_95 rfl (kc_80 C) (rc_80_28 C) ?_
          refine r_iload_n (pc := 48) X dX8_holds_48 rfl ?_
          refine r_iconst (pc := 49) (v := (nI 1)) X dX8_holds_49 (by decide) ?_
          refine r_isub (pc := 50) X dX8_holds_50 ?_
          refine r_top (nI_subn (a := r.length + 1) (b := 1) (by omega)) ?_
          refine r_zaldW (pc := 51) X dX8_holds_51 (kc_96 C) rfl (show r.length < 100 by omega) (by omega) h1 ?_
          refine r_if_neB (pc := 52) X dX8_holds_52 (tgt := 59) (by decide) (fun c52 => ?_) (fun c52 => ?_)
          · refine r_iconst (pc := 59) (v := (nI 0)) X dX8_holds_59 (by decide) ?_
            refine r_zastW (pc := 60) X dX8_holds_60 (kc_96 C) rfl (show r.length < 100 by omega) (by omega) rfl ?_
            refine r_goto (pc := 61) X dX8_holds_61 (tgt := 237) (by decide) ?_
            refine r_iinc (pc := 237) X dX8_holds_237 rfl (by first | exact nI_i1 _ | rfl) ?_
            refine r_goto (pc := 240) X dX8_holds_240 (tgt := 10) (by decide) ?_
            exact next r (!a) _ _ _ _ _ rfl (by rw [c52]; rfl) g3 (by omega) hp1.2
          · refine r_iconst (pc := 55) (v := (nI 1)) X dX8_holds_55 (by decide) ?_
            refine r_goto (pc := 56) X dX8_holds_56 (tgt := 60) (by decide) ?_
            refine r_zastW (pc := 60) X dX8_holds_60 (kc_96 C) rfl (show r.length < 100 by omega) (by omega) rfl ?_
            refine r_goto (pc := 61) X dX8_holds_61 (tgt := 237) (by decide) ?_
            refine r_iinc (pc := 237) X dX8_holds_237 rfl (by first | exact nI_i1 _ | rfl) ?_
            refine r_goto (pc := 240) X dX8_holds_240 (tgt := 10) (by decide) ?_
            exact next r (!a) _ _ _ _ _ rfl (by rw [c52]; rfl) g3 (by omega) hp1.2
def valF (f : Nat → Int32) (cs : List Nat) : Bool := match sRun 11 f cs [] with
  | some (v :: _) => v
  | _ => false
theorem val_of {f : Nat → Int32} {cs : List Nat} (h : Sem 11 cs) : sRun 11 f cs [] = some [valF f cs] := by
  obtain ⟨v, q⟩ := h.2 f
  have := q 11 [] (Nat.le_refl _)
  unfold valF
  rw [this]
set_option maxRecDepth 10000 in
set_option maxHeartbeats 4000000 in
theorem m_holds : ∀ (d : Nat) {V : VT} {h : hp_T} {M : Mem} (C : CS h) (S : MSt V M) {c p : Nat} {x : CLS} (hc : c < 60) (hp : p < 6) (hx : ClM M c x) (h1 : x.1 ≤ 1), Ei (d + 1) nX8_holds [.ref 80, .int (nI c), .int (nI p)] (wi h M) (fun r M1 => r = b2 (valF (factsF V p) x.2.2) ∧ ∀ b, b ≠ 96 → M1 b = M b) := by
  intro d V h M C S c p x hc hp hx h1
  obtain ⟨o1, o2, o3, o4⟩ := hx
  obtain ⟨a, ha, e1, e2, e3⟩ := o4 h1
  have sm := o1.2.2 h1
  refine Ex.of mm_X8_holds (Nat.le_of_ble_eq_true rfl) fun w κ X hk hnm => ?_
  refine r_iconst (pc := 0) (v := (nI 0)) X dX8_holds_0 (by decide) ?_
  refine r_istore_n (pc := 1) X dX8_holds_1 (Nat.le_of_ble_eq_true rfl) ?_
  refine r_aload_n (pc := 2) X dX8_holds_2 rfl ?_
  refine r_getr (pc := 3) X dX8_holds_3 tf_8_71 rfl (kc_80 C) (rc_80_20 C) ?_
  refine r_iload_n (pc := 6) X dX8_holds_6 rfl ?_
  refine r_ialdW (pc := 7) X dX8_holds_7 (kc_91 C) rfl hc (by omega) e1 ?_
  refine r_istore (pc := 8) X dX8_holds_8 (Nat.le_of_ble_eq_true rfl) ?_
  exact lm_holds d C S hp hc (show a + x.2.2.length ≤ 600 by omega) e2 X (fun M1 hk => ⟨⟨_, M1, rfl, rfl, rfl, hk⟩, rfl⟩) x.2.2 a [] M _ _ _ rfl sm.1 e3 (by decide) (val_of sm) trivial (fun _ _ => rfl)
def encN : List Bool → Nat
  | [] => 0
  | b :: r => 2 * encN r + b.toNat
theorem enc_lt : ∀ (st : List Bool), encN st < 2 ^ st.length := by
  intro st
  induction st with
  | nil => decide
  | cons b r ih =>
    show 2 * encN r + b.toNat < 2 ^ (r.length + 1)
    rw [Nat.pow_succ]
    have : b.toNat ≤ 1 := by cases b <;> decide
    omega
theorem bit_push : ∀ n, n < 1024 → ∀ b : Bool, nI n <<< (nI 1 &&& 31) ||| b2 b = nI (2 * n + b.toNat) := by decide +kernel
theorem bit_and : ∀ m, m < 512 → ∀ a b : Bool, nI (2 * (2 * m + b.toNat) + a.toNat) >>> (nI 1 &&& 31) &&& (nI (2 * (2 * m + b.toNat) + a.toNat) ||| -2) = nI (2 * m + (b && a).toNat) := by decide +kernel
theorem bit_or : ∀ m, m < 512 → ∀ a b : Bool, nI (2 * (2 * m + b.toNat) + a.toNat) >>> (nI 1 &&& 31) ||| (nI (2 * (2 * m + b.toNat) + a.toNat) &&& nI 1) = nI (2 * m + (b || a).toNat) := by decide +kernel
theorem bit_not : ∀ m, m < 1024 → ∀ a : Bool, nI (2 * m + a.toNat) ^^^ nI 1 = nI (2 * m + (!a).toNat) := by decide +kernel
def rfold (f : Nat → Int32) (l : List Nat) (x : Int32 × Int32) : Int32 × Int32 := l.foldl (fun x c => rstep f c x) x
theorem rst_t {f : Nat → Int32} {c : Nat} {x : Int32 × Int32} (h : c / 65536 ≤ 2) : rstep f c x = (x.1 <<< (nI 1 &&& 31) ||| b2 (tsF f c), x.2) := by
  unfold rstep tsF
  rcases (show c / 65536 = 0 ∨ c / 65536 = 1 ∨ c / 65536 = 2 by omega) with e | e | e <;> rw [e] <;> rfl
theorem rst_3 {f : Nat → Int32} {c : Nat} {x : Int32 × Int32} (h : c / 65536 = 3) : rstep f c x = (x.1 >>> (nI 1 &&& 31) &&& (x.1 ||| -2), x.2) := by
  unfold rstep
  rw [h]
  rfl
theorem rst_4 {f : Nat → Int32} {c : Nat} {x : Int32 × Int32} (h : c / 65536 = 4) : rstep f c x = (x.1 >>> (nI 1 &&& 31) ||| (x.1 &&& nI 1), x.2) := by
  unfold rstep
  rw [h]
  rfl
theorem rst_5 {f : Nat → Int32} {c : Nat} {x : Int32 × Int32} (h : c / 65536 = 5) : rstep f c x = (x.1 ^^^ nI 1, x.2) := by
  unfold rstep
  rw [h]
  rfl
theorem fold_run {f : Nat → Int32} {S : Int32} : ∀ (cs : List Nat) (st s3 : List Bool), st.length ≤ 11 → sRun 11 f cs st = some s3 → rfold f cs (nI (encN st), S) = (nI (encN s3), S) := by
  intro cs
  induction cs with
  | nil => intro st s3 _ h; cases h; rfl
  | cons c cs ih =>
    intro st s3 hl h
    obtain ⟨s2, e2, hr⟩ := sRun_inv h
    show rfold f cs (rstep f c (nI (encN st), S)) = _
    rcases sst_inv e2 with ⟨g1, g2, rfl⟩ | ⟨g1, a, b, r, rfl, rfl⟩ | ⟨g1, a, b, r, rfl, rfl⟩ | ⟨g1, a, r, rfl, rfl⟩
    · rw [rst_t g1]
      have hb : encN st < 1024 := Nat.lt_of_lt_of_le (enc_lt st) (Nat.pow_le_pow_right (by omega) (show st.length ≤ 10 by omega))
      show rfold f cs (nI (encN st) <<< (nI 1 &&& 31) ||| b2 (tsF f c), S) = _
      rw [bit_push _ hb]
      exact ih _ _ (by show st.length + 1 ≤ 11; omega) hr
    · rw [rst_3 g1]
      have hl : r.length + 2 ≤ 11 := hl
      have hb : encN r < 512 := Nat.lt_of_lt_of_le (enc_lt r) (Nat.pow_le_pow_right (by omega) (show r.length ≤ 9 by omega))
      have e9 := bit_and _ hb a b
      show rfold f cs (nI (2 * (2 * encN r + b.toNat) + a.toNat) >>> (nI 1 &&& 31) &&& (nI (2 * (2 * encN r + b.toNat) + a.toNat) ||| -2), S) = _
      rw [e9]
      exact ih _ _ (by show r.length + 1 ≤ 11; omega) hr
    · rw [rst_4 g1]
      have hl : r.length + 2 ≤ 11 := hl
      have hb : encN r < 512 := Nat.lt_of_lt_of_le (enc_lt r) (Nat.pow_le_pow_right (by omega) (show r.length ≤ 9 by omega))
      have e9 := bit_or _ hb a b
      show rfold f cs (nI (2 * (2 * encN r + b.toNat) + a.toNat) >>> (nI 1 &&& 31) ||| (nI (2 * (2 * encN r + b.toNat) + a.toNat) &&& nI 1), S) = _
      rw [e9]
      exact ih _ _ (by show r.length + 1 ≤ 11; omega) hr
    · rw [rst_5 g1]
      have hl : r.length + 1 ≤ 11 := hl
      have hb : encN r < 1024 := Nat.lt_of_lt_of_le (enc_lt r) (Nat.pow_le_pow_right (by omega) (show r.length ≤ 10 by omega))
      have e9 := bit_not _ hb a
      show rfold f cs (nI (2 * encN r + a.toNat) ^^^ nI 1, S) = _
      rw [e9]
      exact ih _ _ (by show r.length + 1 ≤ 11; omega) hr
def rc1 (f : Nat → Int32) (x : CLS) (S : Int32) : Int32 := if x.1 = 0 then S + b2 (valF f x.2.2) * nI x.2.1 else if x.1 = 1 then S - b2 (valF f x.2.2) * nI x.2.1 else S
def rcs (f : Nat → Int32) (cl : List CLS) (S : Int32) : Int32 := cl.foldl (fun S x => rc1 f x S) S
theorem rcs_s {f : Nat → Int32} {cl : List CLS} {x : CLS} {S : Int32} : rcs f (cl ++ [x]) S = rc1 f x (rcs f cl S) := by simp [rcs]
theorem enc_1 (v : Bool) : nI (encN [v]) = b2 v := by cases v <;> rfl
theorem fold_1 {f : Nat → Int32} {x : CLS} {S : Int32} (hx : OkC x) : rfold f (flat1 x) (nI 0, S) = (nI 0, rc1 f x S) := by
  unfold flat1 rc1
  by_cases c0 : x.1 = 0
  · rw [if_pos c0, if_pos c0]
    have r1 := fold_run (S := S) x.2.2 [] _ (by decide) (val_of (f := f) (hx.2.2 (by omega)))
    show List.foldl _ _ _ = _
    rw [List.foldl_append]
    show rstep f (6 * 65536 + 0 * 256 + x.2.1) (rfold f x.2.2 (nI (encN []), S)) = _
    rw [r1]
    have hn := hx.2.1
    unfold rstep
    rw [show (6 * 65536 + 0 * 256 + x.2.1) / 65536 = 6 by omega, show (6 * 65536 + 0 * 256 + x.2.1) % 256 = x.2.1 by omega]
    show (nI 0, S + nI (encN [valF f x.2.2]) * nI x.2.1) = _
    rw [enc_1]
  · rw [if_neg c0, if_neg c0]
    by_cases c1 : x.1 = 1
    · rw [if_pos c1, if_pos c1]
      have r1 := fold_run (S := S) x.2.2 [] _ (by decide) (val_of (f := f) (hx.2.2 (by omega)))
      show List.foldl _ _ _ = _
      rw [List.foldl_append]
      show rstep f (7 * 65536 + 0 * 256 + x.2.1) (rfold f x.2.2 (nI (encN []), S)) = _
      rw [r1]
      have hn := hx.2.1
      unfold rstep
      rw [show (7 * 65536 + 0 * 256 + x.2.1) / 65536 = 7 by omega, show (7 * 65536 + 0 * 256 + x.2.1) % 256 = x.2.1 by omega]
      show (nI 0, S - nI (encN [valF f x.2.2]) * nI x.2.1) = _
      rw [enc_1]
    · rw [if_neg c1, if_neg c1]
      rfl
theorem fold_cl {f : Nat → Int32} : ∀ (cl : List CLS) (S : Int32), (∀ x, x ∈ cl → OkC x) → rfold f (flat cl) (nI 0, S) = (nI 0, rcs f cl S) := by
  intro cl
  induction cl with
  | nil => intro S _; rfl
  | cons x cl ih =>
    intro S h
    have e1 := fold_1 (f := f) (S := S) (h x List.mem_cons_self)
    show rfold f (flat1 x ++ flat cl) (nI 0, S) = _
    unfold rfold at e1 ⊢
    rw [List.foldl_append, e1]
    exact ih _ (fun y hy => h y (List.mem_cons_of_mem _ hy))
theorem okN_flat : ∀ (cl : List CLS), (∀ x, x ∈ cl → OkC x) → okN (flat cl) := by
  intro cl
  induction cl with
  | nil => intro _ c hc; cases hc
  | cons x cl ih =>
    intro h
    exact okN_app (ok_flat1 (h x List.mem_cons_self)) (ih (fun y hy => h y (List.mem_cons_of_mem _ hy)))
theorem rloop_fold {f : Nat → Int32} {l : List Nat} (h : okN l) : ∀ k, k ≤ l.length → rloop (fun i => nI (l.getD i 0)) f k = rfold f (l.take k) (nI 0, nI 0) := by
  intro k
  induction k with
  | zero => intro _; rfl
  | succ k ih =>
    intro hk
    have hm : l.getD k 0 ∈ l := by
      rw [List.getD_eq_getElem?_getD, List.getElem?_eq_getElem (by omega)]
      exact List.getElem_mem _
    obtain ⟨s, t, v, h1, h2, h3, h4⟩ := h _ hm
    show rstep f (nI (l.getD k 0)).toNatClampNeg (rloop (fun i => nI (l.getD i 0)) f k) = _
    rw [ih (by omega), nI_clamp (by rw [h4]; omega), List.take_succ, List.getElem?_eq_getElem (by omega)]
    unfold rfold
    rw [List.foldl_append]
    show _ = rstep f _ _
    congr 1
    rw [List.getD_eq_getElem?_getD, List.getElem?_eq_getElem (by omega)]
    rfl
theorem evL_rain {cl : List CLS} {f : Nat → Int32} (h : ∀ x, x ∈ cl → OkC x) : (evL cl).2.2 f = rcs f cl (nI 0) := by
  show (rloop _ f (flat cl).length).2 = _
  rw [rloop_fold (okN_flat cl h) _ (Nat.le_refl _), List.take_length, fold_cl cl _ h]
theorem EvM.ok {M : Mem} {k : Nat} {cl : List CLS} (e : EvM M k cl) : ∀ x, x ∈ cl → OkC x := by
  intro x hx
  obtain ⟨j, hj, ej⟩ := List.getElem_of_mem hx
  have := (e.2.2.2 j hj).1
  unfold clD at this
  rw [List.getD_eq_getElem?_getD, List.getElem?_eq_getElem hj] at this
  rw [← ej]
  exact this
set_option maxRecDepth 10000 in
set_option maxHeartbeats 4000000 in
theorem l_mrain : ∀ (d : Nat) {E : EV} {V : VT} {h : hp_T} {M : Mem} (C : CS h) (S : MSt V M) (hE : MEv E M) {k p : Nat} {cl : List CLS} (e0 : M 80 12 = nI k) (e1 : EvM M k cl) (hp : p < 6) {w : wc_T} {κ : cx_T} {Φ : Option Value → hp_T → Prop} (X : CX w κ (d + 2) 8 cX8_rain 4 (some .int) Φ) (hΦ : ∀ M1, (∀ b, b ≠ 96 → M1 b = M b) → Φ (some (.int (rcs (factsF V p) cl (nI 0)))) (wi h M1)),
    ∀ (m j : Nat) (M1 : Mem), j + m = cl.length → (∀ b, b ≠ 96 → M1 b = M b) → GG w κ 7 [some (.ref 80), some (.int (nI p)), some (.int (rcs (factsF V p) (cl.take j) (nI 0))), some (.int (nI (10 * k + j)))] [] (wi h M1) := by
  intro d E V h M C S hE k p cl e0 e1 hp w κ Φ X hΦ m
  have k6 := e1.1
  have k10 := e1.2.2.1
  induction m with
  | zero =>
    intro j M1 hj hk
    have S1 := S.o96 hk
    have hE1 : MEv E M1 := hE.kept (by rw [hk 80 (by omega)]) (fun b h1 h2 => hk b (by omega))
    have e9 := beg_some (M := M1) (by rw [hk 80 (by omega)]; exact e0) (e1.kept (fun b h1 h2 => hk b (by omega)))
    have e : j = cl.length := by omega
    subst e
    rw [List.take_length]
    refine r_iload_n (pc := 7) X dX8_rain_7 rfl ?_
    refine r_aload_n (pc := 8) X dX8_rain_8 rfl ?_
    refine r_c0_0P (pc := 9) X rfl dX8_rain_9 tc_8_306 mm_X8_behind (kc_80 C) rfl rfl (m_behind (d + 1) C hE1) (Nat.le_of_ble_eq_true rfl) ?_
    rw [e9.2]
    refine r_icmp_geN (pc := 12) X dX8_rain_12 (tgt := 71) (by decide) (by omega) (by omega) (fun c12 => ?_) (fun c12 => ?_)
    · refine r_iload_n (pc := 71) X dX8_rain_71 rfl ?_
      refine r_iret (pc := 72) X dX8_rain_72 rfl rfl ?_
      exact hΦ M1 hk
    · exact absurd (Nat.le_refl _) c12
  | succ m ih =>
    intro j M1 hj hk
    have S1 := S.o96 hk
    have hE1 : MEv E M1 := hE.kept (by rw [hk 80 (by omega)]) (fun b h1 h2 => hk b (by omega))
    have e11 := e1.kept (M1 := M1) (fun b h1 h2 => hk b (by omega))
    have e9 := beg_some (M := M1) (by rw [hk 80 (by omega)]; exact e0) e11
    have hjl : j < cl.length := by omega
    have cx := e11.2.2.2 j hjl
    have cx2 := e1.2.2.2 j hjl
    have o4 := cx.1.1
    refine r_iload_n (pc := 7) X dX8_rain_7 rfl ?_
    refine r_aload_n (pc := 8) X dX8_rain_8 rfl ?_
    refine r_c0_0P (pc := 9) X rfl dX8_rain_9 tc_8_306 mm_X8_behind (kc_80 C) rfl rfl (m_behind (d + 1) C hE1) (Nat.le_of_ble_eq_true rfl) ?_
    rw [e9.2]
    refine r_icmp_geN (pc := 12) X dX8_rain_12 (tgt := 71) (by decide) (by omega) (by omega) (fun c12 => ?_) (fun c12 => ?_)
    · exact absurd c12 (by omega)
    · refine r_aload_n (pc := 15) X dX8_rain_15 rfl ?_
      refine r_getr (pc := 16) X dX8_rain_16 tf_8_65 rfl (kc_80 C) (rc_80_18 C) ?_
      refine r_iload_n (pc := 19) X dX8_rain_19 rfl ?_
      refine r_ialdW (pc := 20) X dX8_rain_20 (kc_89 C) rfl (show 10 * k + j < 60 by omega) (by omega) cx.2.1 ?_
      refine r_iconst (pc := 21) (v := (nI 1)) X dX8_rain_21 (by decide) ?_
      refine r_icmp_gtN (pc := 22) X dX8_rain_22 (tgt := 65) (by decide) (by omega) (by omega) (fun c22 => ?_) (fun c22 => ?_)
      · refine r_iinc (pc := 65) X dX8_rain_65 rfl (by first | exact nI_i1 _ | rfl) ?_
        refine r_goto (pc := 68) X dX8_rain_68 (tgt := 7) (by decide) ?_
        have i1 := ih (j + 1) M1 (by omega) hk
        rw [cl_take hjl, rcs_s] at i1
        rw [show rc1 (factsF V p) (clD cl j) (rcs (factsF V p) (cl.take j) (nI 0)) = _ from by unfold rc1; rw [if_neg (by omega), if_neg (by omega)]] at i1
        exact i1
      · refine r_aload_n (pc := 25) X dX8_rain_25 rfl ?_
        refine r_iload_n (pc := 26) X dX8_rain_26 rfl ?_
        refine r_iload_n (pc := 27) X dX8_rain_27 rfl ?_
        refine r_c0_2IW (pc := 28) X rfl dX8_rain_28 tc_8_313 mm_X8_holds (kc_80 C) rfl rfl (m_holds d C S1 (show 10 * k + j < 60 by omega) hp cx (by omega)) (Nat.le_of_ble_eq_true rfl) (fun r28 M28 q28 => ?_)
        obtain ⟨rfl, k28⟩ := q28
        have hk2 : ∀ b, b ≠ 96 → M28 b = M b := fun b hb => (k28 b hb).trans (hk b hb)
        refine r_if_neB (pc := 31) X dX8_rain_31 (tgt := 37) (by decide) (fun c31 => ?_) (fun c31 => ?_)
        · refine r_iload_n (pc := 37) X dX8_rain_37 rfl ?_
          refine r_aload_n (pc := 38) X dX8_rain_38 rfl ?_
          refine r_getr (pc := 39) X dX8_rain_39 tf_8_65 rfl (kc_80 C) (rc_80_18 C) ?_
          refine r_iload_n (pc := 42) X dX8_rain_42 rfl ?_
          refine r_ialdW (pc := 43) X dX8_rain_43 (kc_89 C) rfl (show 10 * k + j < 60 by omega) (by omega) (show M28 89 (10 * k + j) = nI (clD cl j).1 by rw [hk2 89 (by omega)]; exact cx2.2.1) ?_
          refine r_if_ne (pc := 44) X dX8_rain_44 (tgt := 56) (by decide) (fun c44 => ?_) (fun c44 => ?_)
          · refine r_aload_n (pc := 56) X dX8_rain_56 rfl ?_
            refine r_getr (pc := 57) X dX8_rain_57 tf_8_68 rfl (kc_80 C) (rc_80_19 C) ?_
            refine r_iload_n (pc := 60) X dX8_rain_60 rfl ?_
            refine r_ialdW (pc := 61) X dX8_rain_61 (kc_90 C) rfl (show 10 * k + j < 60 by omega) (by omega) (show M28 90 (10 * k + j) = nI (clD cl j).2.1 by rw [hk2 90 (by omega)]; exact cx2.2.2.1) ?_
            refine r_ineg (pc := 62) X dX8_rain_62 ?_
            refine r_iadd (pc := 63) X dX8_rain_63 ?_
            refine r_istore_n (pc := 64) X dX8_rain_64 (Nat.le_of_ble_eq_true rfl) ?_
            refine r_iinc (pc := 65) X dX8_rain_65 rfl (by first | exact nI_i1 _ | rfl) ?_
            refine r_goto (pc := 68) X dX8_rain_68 (tgt := 7) (by decide) ?_
            have i1 := ih (j + 1) M28 (by omega) hk2
            rw [cl_take hjl, rcs_s] at i1
            rw [show rc1 (factsF V p) (clD cl j) (rcs (factsF V p) (cl.take j) (nI 0)) = rcs (factsF V p) (cl.take j) (nI 0) + -nI (clD cl j).2.1 from by
                unfold rc1
                have z0 : ¬ (clD cl j).1 = 0 := fun z => c44 (by rw [z]; rfl)
                rw [if_neg z0, if_pos (show (clD cl j).1 = 1 by omega), c31]
                show _ - nI 1 * _ = _
                rw [pk_mul, Nat.one_mul, Int32.sub_eq_add_neg]] at i1
            exact i1
          · refine r_aload_n (pc := 47) X dX8_rain_47 rfl ?_
            refine r_getr (pc := 48) X dX8_rain_48 tf_8_68 rfl (kc_80 C) (rc_80_19 C) ?_
            refine r_iload_n (pc := 51) X dX8_rain_51 rfl ?_
            refine r_ialdW (pc := 52) X dX8_rain_52 (kc_90 C) rfl (show 10 * k + j < 60 by omega) (by omega) (show M28 90 (10 * k + j) = nI (clD cl j).2.1 by rw [hk2 90 (by omega)]; exact cx2.2.2.1) ?_
            refine r_goto (pc := 53) X dX8_rain_53 (tgt := 63) (by decide) ?_
            refine r_iadd (pc := 63) X dX8_rain_63 ?_
            refine r_istore_n (pc := 64) X dX8_rain_64 (Nat.le_of_ble_eq_true rfl) ?_
            refine r_iinc (pc := 65) X dX8_rain_65 rfl (by first | exact nI_i1 _ | rfl) ?_
            refine r_goto (pc := 68) X dX8_rain_68 (tgt := 7) (by decide) ?_
            have i1 := ih (j + 1) M28 (by omega) hk2
            rw [cl_take hjl, rcs_s] at i1
            rw [show rc1 (factsF V p) (clD cl j) (rcs (factsF V p) (cl.take j) (nI 0)) = rcs (factsF V p) (cl.take j) (nI 0) + nI (clD cl j).2.1 from by
                unfold rc1
                rw [if_pos (show (clD cl j).1 = 0 from (nI_eq (by omega) (by omega)).mp c44), c31]
                show _ + nI 1 * _ = _
                rw [pk_mul, Nat.one_mul]] at i1
            exact i1
        · refine r_goto (pc := 34) X dX8_rain_34 (tgt := 65) (by decide) ?_
          refine r_iinc (pc := 65) X dX8_rain_65 rfl (by first | exact nI_i1 _ | rfl) ?_
          refine r_goto (pc := 68) X dX8_rain_68 (tgt := 7) (by decide) ?_
          have i1 := ih (j + 1) M28 (by omega) hk2
          rw [cl_take hjl, rcs_s] at i1
          rw [show rc1 (factsF V p) (clD cl j) (rcs (factsF V p) (cl.take j) (nI 0)) = rcs (factsF V p) (cl.take j) (nI 0) from by
              unfold rc1
              rw [c31]
              show (if _ then _ + nI 0 * _ else if _ then _ - nI 0 * _ else _) = _
              rw [pk_mul, Nat.zero_mul, show nI 0 = (0 : Int32) from rfl, Int32.add_zero, Int32.sub_zero]
              split
              · rfl
              · split <;> rfl] at i1
          exact i1
set_option maxRecDepth 10000 in
set_option maxHeartbeats 4000000 in
theorem m_rain : ∀ (d : Nat) {E : EV} {V : VT} {h : hp_T} {M : Mem} (C : CS h) (S : MSt V M) (hE : MEv E M) {p : Nat} (hp : p < 6), Ei (d + 2) nX8_rain [.ref 80, .int (nI p)] (wi h M) (fun r M1 => r = rainF E V p ∧ ∀ b, b ≠ 96 → M1 b = M b) := by
  intro d E V h M C S hE p hp
  refine Ex.of mm_X8_rain (Nat.le_of_ble_eq_true rfl) fun w κ X hk hnm => ?_
  have hE0 := hE
  rcases hE with ⟨e0, e2⟩ | ⟨k, cl, e0, e1, e2⟩
  · have e9 := beg_none e0
    refine r_iconst (pc := 0) (v := (nI 0)) X dX8_rain_0 (by decide) ?_
    refine r_istore_n (pc := 1) X dX8_rain_1 (Nat.le_of_ble_eq_true rfl) ?_
    refine r_aload_n (pc := 2) X dX8_rain_2 rfl ?_
    refine r_c0_0P (pc := 3) X rfl dX8_rain_3 tc_8_303 mm_X8_begin (kc_80 C) rfl rfl (m_begin (d + 1) C hE0) (Nat.le_of_ble_eq_true rfl) ?_
    rw [e9.1]
    refine r_istore_n (pc := 6) X dX8_rain_6 (Nat.le_of_ble_eq_true rfl) ?_
    refine r_iload_n (pc := 7) X dX8_rain_7 rfl ?_
    refine r_aload_n (pc := 8) X dX8_rain_8 rfl ?_
    refine r_c0_0P (pc := 9) X rfl dX8_rain_9 tc_8_306 mm_X8_behind (kc_80 C) rfl rfl (m_behind (d + 1) C hE0) (Nat.le_of_ble_eq_true rfl) ?_
    rw [e9.2]
    refine r_icmp_geN (pc := 12) X dX8_rain_12 (tgt := 71) (by decide) (by omega) (by omega) (fun c12 => ?_) (fun c12 => ?_)
    · refine r_iload_n (pc := 71) X dX8_rain_71 rfl ?_
      refine r_iret (pc := 72) X dX8_rain_72 rfl rfl ?_
      exact ⟨⟨_, _, rfl, rfl, by rw [e2]; rfl, fun _ _ => rfl⟩, rfl⟩
    · exact absurd (Nat.le_refl _) c12
  · have e9 := beg_some e0 e1
    refine r_iconst (pc := 0) (v := (nI 0)) X dX8_rain_0 (by decide) ?_
    refine r_istore_n (pc := 1) X dX8_rain_1 (Nat.le_of_ble_eq_true rfl) ?_
    refine r_aload_n (pc := 2) X dX8_rain_2 rfl ?_
    refine r_c0_0P (pc := 3) X rfl dX8_rain_3 tc_8_303 mm_X8_begin (kc_80 C) rfl rfl (m_begin (d + 1) C hE0) (Nat.le_of_ble_eq_true rfl) ?_
    rw [e9.1]
    refine r_istore_n (pc := 6) X dX8_rain_6 (Nat.le_of_ble_eq_true rfl) ?_
    exact l_mrain d C S hE0 e0 e1 hp X (fun M1 hk => ⟨⟨_, M1, rfl, rfl, by rw [e2]; exact (evL_rain e1.ok).symm, hk⟩, rfl⟩) cl.length 0 M (by omega) (fun _ _ => rfl)
