/-! the reference goes through its text: the walk -/
theorem ClS.up {M : Mem} {c s s1 : Nat} {x : CLS} (a : ClS M c x s) (hs : s ≤ s1) : ClS M c x s1 := a.kept (cc := c + 1) CkK.rf (by omega) hs
theorem gtA_A {a b : List CLS} {r : GT} : gtA a (gtA b r) = gtA (a ++ b) r := by
  unfold gtA
  rw [List.append_assoc]
set_option maxRecDepth 10000 in
set_option maxHeartbeats 4000000 in
theorem l_goes : ∀ (d : Nat) {h : hp_T} {T : TX} {k : Nat} {M0 : Mem} (C : CS h) (hk5 : k < 6) (hL : ∀ j, j < 14 → M0 95 j = letL.getD j 0) {w : wc_T} {κ : cx_T} {Φ : Option Value → hp_T → Prop} (X : CX w κ (d + 6) 8 cX8_goesText 3 (some .boolean) Φ) {R : GT} (hΦ : ∀ M1, GsQx T k R M0 M1 → Φ (some (.int (b2 R.1))) (wi h M1)), ∀ (n p s : Nat) (pre : List CLS) (M : Mem), pre.length + n = 9 → MtS T p M → M 80 24 = nI s → 100 * k ≤ s → s ≤ 100 * k + p → GfK k M0 M → ClP M k pre s → gtA pre (gtF T n p) = R → GG w κ 15 [some (.ref 80), some (.int (nI k)), some (.int (nI pre.length))] [] (wi h M) := by
  intro d h T k M0 C hk5 hL w κ Φ X R hΦ n
  have hF : R.1 = false → ∀ M1, GsQx T k R M0 M1 → Φ (some (.int (nI 0))) (wi h M1) := fun z M1 q => by have a := hΦ M1 q; rw [z] at a; exact a
  have hT : R.1 = true → ∀ M1, GsQx T k R M0 M1 → Φ (some (.int (nI 1))) (wi h M1) := fun z M1 q => by have a := hΦ M1 q; rw [z] at a; exact a
  induction n with
  | zero =>
    intro p s pre M hn S hs h1 h2 K hP e
    refine r_aload_n (pc := 15) X dX8_goesText_15 rfl ?_
    refine r_bipush (pc := 16) (v := (nI 10)) X dX8_goesText_16 (by decide) ?_
    refine r_iload_n (pc := 18) X dX8_goesText_18 rfl ?_
    refine r_imul (pc := 19) X dX8_goesText_19 ?_
    refine r_iload_n (pc := 20) X dX8_goesText_20 rfl ?_
    refine r_iadd (pc := 21) X dX8_goesText_21 ?_
    refine r_top (show nI 10 * nI k + nI pre.length = nI (10 * k + pre.length) by rw [pk_mul, nI_add]) ?_
    refine r_c0_1IW (pc := 22) X rfl dX8_goesText_22 tc_8_297 mm_X8_takesClause (kc_80 C) rfl rfl (m_clause d C S (fun j hj => by rw [K.1 95 (by omega) (by omega)]; exact hL j hj) hs (by omega) (by omega)) (Nat.le_of_ble_eq_true rfl) (fun r22 M22 q22 => ?_)
    obtain ⟨ca, cm, ck9, cd⟩ := q22
    subst ca
    have n1 := cm.n100
    have n2 := cm.ple
    have KA := K.tr (ck9.gf (k := k) (by omega) (by omega))
    refine r_if_neB (pc := 25) X dX8_goesText_25 (tgt := 30) (by decide) (fun c25 => ?_) (fun c25 => ?_)
    · obtain ⟨d1, d2, d3, d4⟩ := cd c25
      have g9 := cl_g c25
      have PA : ClP M22 k (pre ++ [(clM T p).2.2]) (s + (clM T p).2.2.2.2.length) := hP.add ck9 (by omega) ⟨d1, d2, fun z => ⟨s, Nat.le_refl _, (d4 z).1, (d4 z).2.1, (d4 z).2.2⟩⟩
      refine r_iinc (pc := 30) X dX8_goesText_30 rfl (by first | exact nI_i1 _ | rfl) ?_
      refine r_aload_n (pc := 33) X dX8_goesText_33 rfl ?_
      refine r_getr (pc := 34) X dX8_goesText_34 tf_8_62 rfl (kc_80 C) (rc_80_17 C) ?_
      refine r_iload_n (pc := 37) X dX8_goesText_37 rfl ?_
      refine r_iload_n (pc := 38) X dX8_goesText_38 rfl ?_
      refine r_iastW (pc := 39) X dX8_goesText_39 (kc_88 C) rfl (show k < 6 by omega) (by omega) ?_
      refine r_aload_n (pc := 40) X dX8_goesText_40 rfl ?_
      refine r_getiW (pc := 41) X dX8_goesText_41 tf_8_53 rfl (kc_80 C) cm.u88.pl ?_
      refine r_aload_n (pc := 44) X dX8_goesText_44 rfl ?_
      refine r_getiW (pc := 45) X dX8_goesText_45 tf_8_50 rfl (kc_80 C) cm.u88.fe ?_
      refine r_icmp_neN (pc := 48) X dX8_goesText_48 (tgt := 53) (by decide) (by omega) (by omega) (fun c48 => ?_) (fun c48 => ?_)
      · refine r_iload_n (pc := 53) X dX8_goesText_53 rfl ?_
        refine r_bipush (pc := 54) (v := (nI 10)) X dX8_goesText_54 (by decide) ?_
        refine r_icmp_eqN (pc := 56) X dX8_goesText_56 (tgt := 68) (by decide) (by omega) (by omega) (fun c56 => ?_) (fun c56 => ?_)
        · refine r_iconst (pc := 68) (v := (nI 0)) X dX8_goesText_68 (by decide) ?_
          refine r_iret (pc := 69) X dX8_goesText_69 rfl rfl ?_
          have e1 : R = (false, (clM T p).2.1, pre ++ [(clM T p).2.2]) := by
            rw [← e]
            show ((clM T p).1 && decide ((clM T p).2.1 = T.1), (clM T p).2.1, pre ++ [(clM T p).2.2]) = _
            rw [c25, decide_eq_false c48]
            rfl
          exact hF (by rw [e1]) _ (by rw [e1]; exact ⟨cm.u88, KA.tr GfK.u88, fun z => absurd (show false = true from z) (by decide)⟩)
        · exact absurd (show pre.length + 1 = 10 by omega) c56
      · refine r_iconst (pc := 51) (v := (nI 1)) X dX8_goesText_51 (by decide) ?_
        refine r_iret (pc := 52) X dX8_goesText_52 rfl rfl ?_
        have e1 : R = (true, (clM T p).2.1, pre ++ [(clM T p).2.2]) := by
          rw [← e]
          show ((clM T p).1 && decide ((clM T p).2.1 = T.1), (clM T p).2.1, pre ++ [(clM T p).2.2]) = _
          rw [c25, decide_eq_true c48]
          rfl
        exact hT (by rw [e1]) _ (by rw [e1]; exact ⟨cm.u88, KA.tr GfK.u88, fun _ => ⟨by rw [mU_eq, pk_us, List.length_append]; rfl, fun i hi => ((PA i hi).up (by omega)).u88⟩⟩)
    · refine r_iconst (pc := 28) (v := (nI 0)) X dX8_goesText_28 (by decide) ?_
      refine r_iret (pc := 29) X dX8_goesText_29 rfl rfl ?_
      have e1 : R = (false, (clM T p).2.1, pre ++ [(clM T p).2.2]) := by
        rw [← e]
        show ((clM T p).1 && decide ((clM T p).2.1 = T.1), (clM T p).2.1, pre ++ [(clM T p).2.2]) = _
        rw [c25]
        rfl
      exact hF (by rw [e1]) _ (by rw [e1]; exact ⟨cm, KA, fun z => absurd (show false = true from z) (by decide)⟩)
  | succ n ih =>
    intro p s pre M hn S hs h1 h2 K hP e
    refine r_aload_n (pc := 15) X dX8_goesText_15 rfl ?_
    refine r_bipush (pc := 16) (v := (nI 10)) X dX8_goesText_16 (by decide) ?_
    refine r_iload_n (pc := 18) X dX8_goesText_18 rfl ?_
    refine r_imul (pc := 19) X dX8_goesText_19 ?_
    refine r_iload_n (pc := 20) X dX8_goesText_20 rfl ?_
    refine r_iadd (pc := 21) X dX8_goesText_21 ?_
    refine r_top (show nI 10 * nI k + nI pre.length = nI (10 * k + pre.length) by rw [pk_mul, nI_add]) ?_
    refine r_c0_1IW (pc := 22) X rfl dX8_goesText_22 tc_8_297 mm_X8_takesClause (kc_80 C) rfl rfl (m_clause d C S (fun j hj => by rw [K.1 95 (by omega) (by omega)]; exact hL j hj) hs (by omega) (by omega)) (Nat.le_of_ble_eq_true rfl) (fun r22 M22 q22 => ?_)
    obtain ⟨ca, cm, ck9, cd⟩ := q22
    subst ca
    have n1 := cm.n100
    have n2 := cm.ple
    have KA := K.tr (ck9.gf (k := k) (by omega) (by omega))
    refine r_if_neB (pc := 25) X dX8_goesText_25 (tgt := 30) (by decide) (fun c25 => ?_) (fun c25 => ?_)
    · obtain ⟨d1, d2, d3, d4⟩ := cd c25
      have g9 := cl_g c25
      have PA : ClP M22 k (pre ++ [(clM T p).2.2]) (s + (clM T p).2.2.2.2.length) := hP.add ck9 (by omega) ⟨d1, d2, fun z => ⟨s, Nat.le_refl _, (d4 z).1, (d4 z).2.1, (d4 z).2.2⟩⟩
      refine r_iinc (pc := 30) X dX8_goesText_30 rfl (by first | exact nI_i1 _ | rfl) ?_
      refine r_aload_n (pc := 33) X dX8_goesText_33 rfl ?_
      refine r_getr (pc := 34) X dX8_goesText_34 tf_8_62 rfl (kc_80 C) (rc_80_17 C) ?_
      refine r_iload_n (pc := 37) X dX8_goesText_37 rfl ?_
      refine r_iload_n (pc := 38) X dX8_goesText_38 rfl ?_
      refine r_iastW (pc := 39) X dX8_goesText_39 (kc_88 C) rfl (show k < 6 by omega) (by omega) ?_
      refine r_aload_n (pc := 40) X dX8_goesText_40 rfl ?_
      refine r_getiW (pc := 41) X dX8_goesText_41 tf_8_53 rfl (kc_80 C) cm.u88.pl ?_
      refine r_aload_n (pc := 44) X dX8_goesText_44 rfl ?_
      refine r_getiW (pc := 45) X dX8_goesText_45 tf_8_50 rfl (kc_80 C) cm.u88.fe ?_
      refine r_icmp_neN (pc := 48) X dX8_goesText_48 (tgt := 53) (by decide) (by omega) (by omega) (fun c48 => ?_) (fun c48 => ?_)
      · refine r_iload_n (pc := 53) X dX8_goesText_53 rfl ?_
        refine r_bipush (pc := 54) (v := (nI 10)) X dX8_goesText_54 (by decide) ?_
        refine r_icmp_eqN (pc := 56) X dX8_goesText_56 (tgt := 68) (by decide) (by omega) (by omega) (fun c56 => ?_) (fun c56 => ?_)
        · exact absurd c56 (by omega)
        · refine r_aload_n (pc := 59) X dX8_goesText_59 rfl ?_
          refine r_bipush (pc := 60) (v := (nI 59)) X dX8_goesText_60 (by decide) ?_
          refine r_c0_1IW (pc := 62) X rfl dX8_goesText_62 tc_8_262 mm_X8_takes (kc_80 C) rfl rfl (m_takes (d + 4) C cm.u88 (k := 59) (by decide)) (Nat.le_of_ble_eq_true rfl) (fun r62 M62 q62 => ?_)
          obtain ⟨ta, tm, tk⟩ := q62
          subst ta
          refine r_if_neB (pc := 65) X dX8_goesText_65 (tgt := 15) (by decide) (fun c65 => ?_) (fun c65 => ?_)
          · have t9 := tk_t c65
            rw [t9.2] at tm
            have e1 : gtA (pre ++ [(clM T p).2.2]) (gtF T n ((clM T p).2.1 + 1)) = R := by
              rw [← e]
              conv => rhs; unfold gtF
              rw [if_pos c25, if_neg c48, if_pos t9.1, gtA_A]
            have hl : (pre ++ [(clM T p).2.2]).length = pre.length + 1 := by rw [List.length_append]; rfl
            have q9 := ih ((clM T p).2.1 + 1) (s + (clM T p).2.2.2.2.length) (pre ++ [(clM T p).2.2]) M62 (by omega) tm ((tk.2 24 (by omega) (by omega)).trans (by rw [mU_ne (by omega)]; exact d3)) (by omega) (by omega) ((KA.tr GfK.u88).tr tk.gf) (fun i hi => ((PA i hi).u88).mt tk) e1
            rw [hl] at q9
            exact q9
          · refine r_iconst (pc := 68) (v := (nI 0)) X dX8_goesText_68 (by decide) ?_
            refine r_iret (pc := 69) X dX8_goesText_69 rfl rfl ?_
            have t9 := tk_f c65
            rw [t9.2] at tm
            have e1 : R = (false, (clM T p).2.1, pre ++ [(clM T p).2.2]) := by
              rw [← e]
              unfold gtF
              rw [if_pos c25, if_neg c48, if_neg t9.1]
              rfl
            exact hF (by rw [e1]) _ (by rw [e1]; exact ⟨tm, (KA.tr GfK.u88).tr tk.gf, fun z => absurd (show false = true from z) (by decide)⟩)
      · refine r_iconst (pc := 51) (v := (nI 1)) X dX8_goesText_51 (by decide) ?_
        refine r_iret (pc := 52) X dX8_goesText_52 rfl rfl ?_
        have e1 : R = (true, (clM T p).2.1, pre ++ [(clM T p).2.2]) := by
          rw [← e]
          unfold gtF
          rw [if_pos c25, if_pos c48]
          rfl
        exact hT (by rw [e1]) _ (by rw [e1]; exact ⟨cm.u88, KA.tr GfK.u88, fun _ => ⟨by rw [mU_eq, pk_us, List.length_append]; rfl, fun i hi => ((PA i hi).up (by omega)).u88⟩⟩)
    · refine r_iconst (pc := 28) (v := (nI 0)) X dX8_goesText_28 (by decide) ?_
      refine r_iret (pc := 29) X dX8_goesText_29 rfl rfl ?_
      have e1 : R = (false, (clM T p).2.1, pre ++ [(clM T p).2.2]) := by
        rw [← e]
        unfold gtF
        rw [if_neg (nt_f c25)]
        rfl
      exact hF (by rw [e1]) _ (by rw [e1]; exact ⟨cm, KA, fun z => absurd (show false = true from z) (by decide)⟩)
set_option maxRecDepth 10000 in
set_option maxHeartbeats 4000000 in
theorem m_goes : ∀ (d : Nat) {h : hp_T} {M : Mem} {T : TX} {k : Nat} (C : CS h) (hT : M 80 13 = nI T.1 ∧ T.1 ≤ 100 ∧ ∀ i, i < T.1 → M 87 i = nI (T.2 i) ∧ T.2 i ≤ 127) (hL : ∀ j, j < 14 → M 95 j = letL.getD j 0) (hk : k < 6), Ei (d + 6) nX8_goesText [.ref 80, .int (nI k)] (wi h M) (fun r M1 => r = b2 (gtF T 9 0).1 ∧ GsQx T k (gtF T 9 0) M M1) := by
  intro d h M T k C hT hL hk5
  refine Ex.of mm_X8_goesText (Nat.le_of_ble_eq_true rfl) fun w κ X hk hnm => ?_
  refine r_aload_n (pc := 0) X dX8_goesText_0 rfl ?_
  refine r_iconst (pc := 1) (v := (nI 0)) X dX8_goesText_1 (by decide) ?_
  refine r_putiW (pc := 2) X dX8_goesText_2 tf_8_53 rfl (Or.inl rfl) (kc_80 C) ⟨rfl, rfl⟩ ?_
  refine r_aload_n (pc := 5) X dX8_goesText_5 rfl ?_
  refine r_bipush (pc := 6) (v := (nI 100)) X dX8_goesText_6 (by decide) ?_
  refine r_iload_n (pc := 8) X dX8_goesText_8 rfl ?_
  refine r_imul (pc := 9) X dX8_goesText_9 ?_
  refine r_top (show nI 100 * nI k = nI (100 * k) by rw [pk_mul]) ?_
  refine r_putiW (pc := 10) X dX8_goesText_10 tf_8_83 rfl (Or.inl rfl) (kc_80 C) ⟨rfl, rfl⟩ ?_
  refine r_iconst (pc := 13) (v := (nI 0)) X dX8_goesText_13 (by decide) ?_
  refine r_istore_n (pc := 14) X dX8_goesText_14 (Nat.le_of_ble_eq_true rfl) ?_
  exact l_goes d C hk5 hL X (fun M1 q => ⟨⟨_, M1, rfl, rfl, rfl, q⟩, rfl⟩) 9 0 (100 * k) [] _ rfl
    ⟨⟨by rw [mU_eq, pk_un (by omega), mU_eq, pk_un (by omega)]; exact hT.1, hT.2.1, fun i hi => by rw [mU_ne (by omega), mU_ne (by omega)]; exact hT.2.2 i hi⟩, by rw [mU_eq, pk_un (by omega), mU_eq, pk_us], Nat.zero_le _⟩
    (by rw [mU_eq, pk_us]) (Nat.le_refl _) (Nat.le_refl _) ((GfK.u80 (Or.inl rfl)).tr (GfK.u80 (Or.inr rfl))) (fun i hi => absurd hi (Nat.not_lt_zero _)) rfl
/-! the call: evening -/
theorem MSt.gf {V : VT} {M M1 : Mem} {k : Nat} (s : MSt V M) (g : GfK k M M1) : MSt V M1 :=
  ⟨(g.2.1 0 (by omega) (by omega) (by omega) (by omega) (by omega)).trans s.1, (g.2.1 1 (by omega) (by omega) (by omega) (by omega) (by omega)).trans s.2.1, (g.2.1 2 (by omega) (by omega) (by omega) (by omega) (by omega)).trans s.2.2.1, (g.2.1 3 (by omega) (by omega) (by omega) (by omega) (by omega)).trans s.2.2.2.1, (g.2.1 4 (by omega) (by omega) (by omega) (by omega) (by omega)).trans s.2.2.2.2.1, fun f h1 h2 => (g.1 (80 + f) (by omega) (by omega)).trans (s.2.2.2.2.2 f h1 h2)⟩
theorem ClM.gf {M M1 : Mem} {k k1 j : Nat} {x : CLS} (e : ClM M (10 * k + j) x) (g : GfK k1 M M1) (hk : k < k1) (hj : j < 10) : ClM M1 (10 * k + j) x := by
  obtain ⟨o1, o2, o3, o4⟩ := e
  obtain ⟨g1, g2, g3, g4⟩ := g.2.2.2.1 (10 * k + j) (by omega)
  refine ⟨o1, g1.trans o2, g2.trans o3, fun z => ?_⟩
  obtain ⟨a, a1, a2, a3, a4⟩ := o4 z
  exact ⟨a, a1, g3.trans a2, g4.trans a3, fun i hi => (g.2.2.1 (a + i) (by omega)).trans (a4 i hi)⟩
theorem EvM.gf {M M1 : Mem} {k k1 : Nat} {cl : List CLS} (e : EvM M k cl) (g : GfK k1 M M1) (hk : k < k1) : EvM M1 k cl :=
  ⟨e.1, (g.2.2.2.2 k (by omega)).trans e.2.1, e.2.2.1, fun j hj => (e.2.2.2 j hj).gf g hk (by have := e.2.2.1; omega)⟩
theorem MEvs.gf {l : List EV} {M M1 : Mem} (p : MEvs l M) (g : GfK l.length M M1) : MEvs l M1 :=
  ⟨(g.2.1 11 (by omega) (by omega) (by omega) (by omega) (by omega)).trans p.1, fun j hj => by obtain ⟨cl, e1, e2⟩ := p.2 j hj; exact ⟨cl, e1.gf g hj, e2⟩⟩
theorem MRep.gf {σ : SG} {M M1 : Mem} {L : LMem} (q : MRep σ M L) (g : GfK (sEv σ).length M M1) : MRep σ M1 L :=
  ⟨⟨q.s.gf g, (g.2.1 29 (by omega) (by omega) (by omega) (by omega) (by omega)).trans q.1.2⟩, q.2.1.kept (fun j hj => g.2.1 j (by omega) (by omega) (by omega) (by omega) (by omega)) (fun b h1 h2 => g.1 b (by omega) (by omega)), q.es.gf g, q.im.kept (fun j h1 h2 => g.2.1 j (by omega) (by omega) (by omega) (by omega) (by omega)) (fun b h1 h2 => g.1 b (by omega) (by omega)),
    q.tx.kept (g.2.1 13 (by omega) (by omega) (by omega) (by omega) (by omega)) (g.1 87 (by omega) (by omega)) (g.1 95 (by omega) (by omega)), q.bl.kept (g.2.1 68 (by omega) (by omega) (by omega) (by omega) (by omega)) (g.1 118 (by omega) (by omega)), (Tm.kept (g.1 119 (by omega) (by omega)) (g.1 120 (by omega) (by omega))).trans q.tp⟩
theorem MEvs.add {l : List EV} {M M1 : Mem} {E : EV} {cl : List CLS} (p : MEvs l M) (h0 : M1 80 11 = nI (l.length + 1)) (k : ∀ q, 88 ≤ q → q ≤ 93 → M1 q = M q) (e : EvM M l.length cl) (hE : E = evL cl) : MEvs (l ++ [E]) M1 := by
  refine ⟨by rw [h0, List.length_append]; rfl, fun j hj => ?_⟩
  rw [List.length_append] at hj
  have hj : j < l.length + 1 := hj
  by_cases c : j = l.length
  · subst c
    refine ⟨cl, e.kept k, ?_⟩
    rw [List.getD_eq_getElem?_getD, List.getElem?_append_right (Nat.le_refl _), Nat.sub_self]
    exact hE
  · obtain ⟨c2, e1, e2⟩ := p.2 j (by omega)
    refine ⟨c2, e1.kept k, ?_⟩
    rw [List.getD_eq_getElem?_getD, List.getElem?_append_left (by omega), ← List.getD_eq_getElem?_getD]
    exact e2
theorem MRep.setEv {σ : SG} {M M1 : Mem} {L : LMem} (q : MRep σ M L) {e : Option Nat} {l : List EV} (h0 : ∀ j, j ≠ 11 → j ≠ 12 → M1 80 j = M 80 j) (k : ∀ b, b ≠ 80 → M1 b = M b) (e12 : M1 80 12 = enI e) (es : MEvs l M1) : MRep ((σ.1.1, e, σ.1.2.2), σ.2.1, l, σ.2.2.2) M1 L :=
  ⟨⟨⟨(h0 0 (by omega) (by omega)).trans q.s.1, (h0 1 (by omega) (by omega)).trans q.s.2.1, (h0 2 (by omega) (by omega)).trans q.s.2.2.1, (h0 3 (by omega) (by omega)).trans q.s.2.2.2.1, (h0 4 (by omega) (by omega)).trans q.s.2.2.2.2.1, fun f h1 h2 => (k (80 + f) (by omega)).trans (q.s.2.2.2.2.2 f h1 h2)⟩, (h0 29 (by omega) (by omega)).trans q.1.2⟩, ⟨e12, q.se.kept (h0 37 (by omega) (by omega)) (k 100 (by omega)) (k 101 (by omega)), q.ga.kept (h0 40 (by omega) (by omega)) (k 102 (by omega)) (k 103 (by omega)), q.bo.kept (h0 41 (by omega) (by omega)) (k 104 (by omega)) (k 105 (by omega))⟩, es, q.im.kept (fun j h1 h2 => h0 j (by omega) (by omega)) (fun b h1 h2 => k b (by omega)),
    q.tx.kept (h0 13 (by omega) (by omega)) (k 87 (by omega)) (k 95 (by omega)), q.bl.kept (h0 68 (by omega) (by omega)) (k 118 (by omega)), (Tm.kept (k 119 (by omega)) (k 120 (by omega))).trans q.tp⟩
theorem ClM.of {M : Mem} {k j : Nat} {x : CLS} (h : ClS M (10 * k + j) x (100 * k + 100)) (hj : j < 10) (o : OkC x) : ClM M (10 * k + j) x := by
  refine ⟨o, h.1, h.2.1, fun z => ?_⟩
  obtain ⟨a, a1, a2⟩ := h.2.2 z
  exact ⟨a, by omega, a2⟩
theorem EvM.of {M : Mem} {k : Nat} {cl : List CLS} (hk : k < 6) (h : M 88 k = nI cl.length) (hl : cl.length ≤ 10) (p : ClP M k cl (100 * k + 100)) (o : ∀ c, c ∈ cl → OkC c) : EvM M k cl := by
  refine ⟨hk, h, hl, fun j hj => ClM.of (p j hj) (by omega) ?_⟩
  refine o _ ?_
  unfold clD
  rw [List.getD_eq_getElem?_getD, List.getElem?_eq_getElem hj]
  exact List.getElem_mem hj
theorem ev_h100 {T : TX} (h : standF T = true) (ht : T.1 ≤ 100) : evOf T = evL (gtF T 9 0).2.2 ∧ (∀ c, c ∈ (gtF T 9 0).2.2 → OkC c) ∧ (compF T).2.2.1.length ≤ 100 := by
  rcases gt_ev h with q | q
  · exact q
  · omega
set_option maxRecDepth 10000 in
set_option maxHeartbeats 4000000 in
theorem n_evening : ∀ (d : Nat) {σ : SG} {h : hp_T} {M : Mem} {B0 : Nat} (C : CS h) (q0 : MRep σ M (h_l h)) (O : OK B0 σ), Ex (d + 9) nX8_evening [.ref 80] (wi h M) 0 0 (QM (f_evening σ) h M) := by
  intro d σ h M B0 C q0 O
  have h7 := O.2.2.1.1
  have ht := O.2.2.2.1
  have ke : M 80 11 = nI (sEv σ).length := q0.es.1
  refine Ex.of mm_X8_evening (Nat.le_of_ble_eq_true rfl) fun w κ X hk hnm => ?_
  refine r_aload_n (pc := 0) X dX8_evening_0 rfl ?_
  refine r_getiW (pc := 1) X dX8_evening_1 tf_8_44 rfl (kc_80 C) ke ?_
  refine r_bipush (pc := 4) (v := (nI 6)) X dX8_evening_4 (by decide) ?_
  refine r_icmp_neN (pc := 6) X dX8_evening_6 (tgt := 12) (by decide) (by omega) (by omega) (fun c6 => ?_) (fun c6 => ?_)
  · refine r_aload_n (pc := 12) X dX8_evening_12 rfl ?_
    refine r_aload_n (pc := 13) X dX8_evening_13 rfl ?_
    refine r_getiW (pc := 14) X dX8_evening_14 tf_8_44 rfl (kc_80 C) ke ?_
    refine r_c0_1IW (pc := 17) X rfl dX8_evening_17 tc_8_300 mm_X8_goesText (kc_80 C) rfl rfl (m_goes (d + 2) C ⟨q0.tx.1.1, ht.1, fun i hi => ⟨q0.tx.1.2 i hi, ht.2 i hi⟩⟩ q0.tx.2 (show (sEv σ).length < 6 by omega)) (Nat.le_of_ble_eq_true rfl) (fun r17 M17 q17 => ?_)
    obtain ⟨ga, gm, gk, gd⟩ := q17
    subst ga
    have q17 := q0.gf gk
    have k17 : M17 80 11 = nI (sEv σ).length := q17.es.1
    have qt : MRep (tx0 σ) (mU M17 80 (upd (M17 80) 13 (nI 0))) (h_l h) := q17.setTx (T := (0, (sXt σ).2)) (fun j hj => by rw [mU_eq, pk_un hj]) (fun b h1 h2 => mU_ne h1) ⟨⟨by rw [mU_eq, pk_us], fun i hi => absurd hi (Nat.not_lt_zero _)⟩, fun i hi => by rw [mU_ne (by omega)]; exact q17.tx.2 i hi⟩
    have fr : ∀ b, (b < 80 ∨ 122 < b) → M17 b = M b := fun b hb => gk.1 b (by omega) (by omega)
    refine r_istore_n (pc := 20) X dX8_evening_20 (Nat.le_of_ble_eq_true rfl) ?_
    refine r_aload_n (pc := 21) X dX8_evening_21 rfl ?_
    refine r_iconst (pc := 22) (v := (nI 0)) X dX8_evening_22 (by decide) ?_
    refine r_putiW (pc := 23) X dX8_evening_23 tf_8_50 rfl (Or.inl rfl) (kc_80 C) ⟨rfl, rfl⟩ ?_
    refine r_iload_n (pc := 26) X dX8_evening_26 rfl ?_
    refine r_if_neB (pc := 27) X dX8_evening_27 (tgt := 38) (by decide) (fun c27 => ?_) (fun c27 => ?_)
    · refine r_aload_n (pc := 38) X dX8_evening_38 rfl ?_
      refine r_aload_n (pc := 39) X dX8_evening_39 rfl ?_
      refine r_getiW (pc := 40) X dX8_evening_40 tf_8_44 rfl (kc_80 C) (show mU M17 80 (upd (M17 80) 13 (nI 0)) 80 11 = nI (sEv σ).length by rw [mU_eq, pk_un (by omega)]; exact k17) ?_
      refine r_putiW (pc := 43) X dX8_evening_43 tf_8_47 rfl (Or.inl rfl) (kc_80 C) ⟨rfl, rfl⟩ ?_
      refine r_aload_n (pc := 46) X dX8_evening_46 rfl ?_
      refine r_dup (pc := 47) X dX8_evening_47 rfl ?_
      refine r_getiW (pc := 48) X dX8_evening_48 tf_8_44 rfl (kc_80 C) (show _ = nI (sEv σ).length by rw [mU_eq, pk_un (by omega), mU_eq, pk_un (by omega)]; exact k17) ?_
      refine r_iconst (pc := 51) (v := (nI 1)) X dX8_evening_51 (by decide) ?_
      refine r_iadd (pc := 52) X dX8_evening_52 ?_
      refine r_top (nI_add _ 1) ?_
      refine r_putiW (pc := 53) X dX8_evening_53 tf_8_44 rfl (Or.inl rfl) (kc_80 C) ⟨rfl, rfl⟩ ?_
      refine r_aload_n (pc := 56) X dX8_evening_56 rfl ?_
      refine r_getiW (pc := 57) X dX8_evening_57 tf_8_47 rfl (kc_80 C) (show _ = nI (sEv σ).length by rw [mU_eq, pk_un (by omega), mU_eq, pk_us]) ?_
      refine r_iret (pc := 60) X dX8_evening_60 rfl rfl ?_
      have st := gt_stand.trans c27
      obtain ⟨v1, v2, -⟩ := ev_h100 st ht.1
      obtain ⟨g1, g2⟩ := gd c27
      have el := EvM.of (show (sEv σ).length < 6 by omega) g1 (gt_len 9 0) g2 v2
      have qe := qt.setEv (M1 := mU (mU (mU M17 80 (upd (M17 80) 13 (nI 0))) 80 (upd (mU M17 80 (upd (M17 80) 13 (nI 0)) 80) 12 (nI (sEv σ).length))) 80 (upd (mU (mU M17 80 (upd (M17 80) 13 (nI 0))) 80 (upd (mU M17 80 (upd (M17 80) 13 (nI 0)) 80) 12 (nI (sEv σ).length)) 80) 11 (nI ((sEv σ).length + 1)))) (e := some (sEv σ).length) (l := sEv σ ++ [evOf (sXt σ)]) (fun j h1 h2 => by rw [mU_eq, pk_un h1, mU_eq, pk_un h2]) (fun b hb => by rw [mU_ne hb, mU_ne hb]) (by rw [mU_eq, pk_un (by omega), mU_eq, pk_us]; rfl) (q17.es.add (by rw [mU_eq, pk_us]) (fun b h1 h2 => by rw [mU_ne (by omega), mU_ne (by omega), mU_ne (by omega)]) el v1)
      exact ⟨QM.mk (by rw [f_evening, if_neg (by omega), if_pos st]) qe ⟨fun b hb => by rw [mU_ne (by omega), mU_ne (by omega), mU_ne (by omega)]; exact fr b hb, fun _ _ => rfl⟩, rfl⟩
    · refine r_bipush (pc := 30) (v := (-10)) X dX8_evening_30 (by decide) ?_
      refine r_aload_n (pc := 32) X dX8_evening_32 rfl ?_
      refine r_getiW (pc := 33) X dX8_evening_33 tf_8_53 rfl (kc_80 C) (show mU M17 80 (upd (M17 80) 13 (nI 0)) 80 14 = nI (gtF (sXt σ) 9 0).2.1 by rw [mU_eq, pk_un (by omega)]; exact gm.pl) ?_
      refine r_isub (pc := 36) X dX8_evening_36 ?_
      refine r_iret (pc := 37) X dX8_evening_37 rfl rfl ?_
      exact ⟨QM.mk (by rw [f_evening, if_neg (by omega), if_neg (nt_f (gt_stand.trans c27)), gt_comp.1]) qt ⟨fun b hb => (mU_ne (by omega)).trans (fr b hb), fun _ _ => rfl⟩, rfl⟩
  · refine r_bipush (pc := 9) (v := (-4)) X dX8_evening_9 (by decide) ?_
    refine r_iret (pc := 11) X dX8_evening_11 rfl rfl ?_
    exact ⟨QM.mk (σ1 := σ) (by rw [f_evening, if_pos (by omega)]) q0 FM.rf, rfl⟩
