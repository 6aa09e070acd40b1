/-! the reference: told by hand, tapes -/
section S42
variable {σ : SG} {h : hp_T} {M M1 : Mem} {L L1 : LMem} {B0 : Nat}
theorem MRep.se (q : MRep σ M L) : PvM M 37 100 101 (sSe σ) := q.2.1.2.1
theorem MRep.ga (q : MRep σ M L) : PvM M 40 102 103 (sGa σ) := q.2.1.2.2.1
theorem MRep.bo (q : MRep σ M L) : PvM M 41 104 105 (sBo σ) := q.2.1.2.2.2
theorem MRep.es (q : MRep σ M L) : MEvs (sEv σ) M := q.2.2.1
theorem MRep.im (q : MRep σ M L) : MImg (sIm σ) M := q.2.2.2.1
theorem MRep.tx (q : MRep σ M L) : MTx (sXt σ) M := q.2.2.2.2.1
theorem MRep.bl (q : MRep σ M L) : MBl (sBl σ) M := q.2.2.2.2.2.1
theorem MRep.tp (q : MRep σ M L) : Tm M L = sT σ := q.2.2.2.2.2.2
theorem MRep.setTx (q : MRep σ M L) {T : TX} (h0 : ∀ j, j ≠ 13 → M1 80 j = M 80 j) (k : ∀ b, b ≠ 80 → b ≠ 87 → M1 b = M b) (t : MTx T M1) : MRep (σ.1, σ.2.1, σ.2.2.1, T, σ.2.2.2.2) M1 L :=
  ⟨⟨q.s.kept (fun j hj => h0 j (by omega)) (fun b h1 h2 => k b (by omega) (by omega)), (h0 29 (by omega)).trans q.1.2⟩, q.2.1.kept (fun j hj => h0 j (by omega)) (fun b h1 h2 => k b (by omega) (by omega)), q.2.2.1.kept (h0 11 (by omega)) (fun b h1 h2 => k b (by omega) (by omega)), q.2.2.2.1.kept (fun j h1 h2 => h0 j (by omega)) (fun b h1 h2 => k b (by omega) (by omega)),
    t, q.2.2.2.2.2.1.kept (h0 68 (by omega)) (k 118 (by omega) (by omega)), (Tm.kept (k 119 (by omega) (by omega)) (k 120 (by omega) (by omega))).trans q.2.2.2.2.2.2⟩
theorem MRep.setLs (q : MRep σ M L) {a b c : PL} (h0 : ∀ j, j ≠ 37 → j ≠ 40 → j ≠ 41 → M1 80 j = M 80 j) (k : ∀ b, b ≠ 80 → (b < 100 ∨ 105 < b) → M1 b = M b) (p1 : PvM M1 37 100 101 a) (p2 : PvM M1 40 102 103 b) (p3 : PvM M1 41 104 105 c) : MRep ((σ.1.1, σ.1.2.1, a, b, c), σ.2) M1 L :=
  ⟨⟨q.s.kept (fun j hj => h0 j (by omega) (by omega) (by omega)) (fun b h1 h2 => k b (by omega) (by omega)), (h0 29 (by omega) (by omega) (by omega)).trans q.1.2⟩, ⟨(h0 12 (by omega) (by omega) (by omega)).trans q.2.1.1, p1, p2, p3⟩, q.2.2.1.kept (h0 11 (by omega) (by omega) (by omega)) (fun b h1 h2 => k b (by omega) (by omega)), q.2.2.2.1.kept (fun j h1 h2 => h0 j (by omega) (by omega) (by omega)) (fun b h1 h2 => k b (by omega) (by omega)),
    q.2.2.2.2.1.kept (h0 13 (by omega) (by omega) (by omega)) (k 87 (by omega) (by omega)) (k 95 (by omega) (by omega)), q.2.2.2.2.2.1.kept (h0 68 (by omega) (by omega) (by omega)) (k 118 (by omega) (by omega)), (Tm.kept (k 119 (by omega) (by omega)) (k 120 (by omega) (by omega))).trans q.2.2.2.2.2.2⟩
theorem MRep.setBl (q : MRep σ M L) {l : List Int32} (h0 : ∀ j, j ≠ 68 → M1 80 j = M 80 j) (k : ∀ b, b ≠ 80 → b ≠ 118 → M1 b = M b) (t : MBl l M1) : MRep (σ.1, σ.2.1, σ.2.2.1, σ.2.2.2.1, l, σ.2.2.2.2.2) M1 L :=
  ⟨⟨q.s.kept (fun j hj => h0 j (by omega)) (fun b h1 h2 => k b (by omega) (by omega)), (h0 29 (by omega)).trans q.1.2⟩, q.2.1.kept (fun j hj => h0 j (by omega)) (fun b h1 h2 => k b (by omega) (by omega)), q.2.2.1.kept (h0 11 (by omega)) (fun b h1 h2 => k b (by omega) (by omega)), q.2.2.2.1.kept (fun j h1 h2 => h0 j (by omega)) (fun b h1 h2 => k b (by omega) (by omega)),
    q.2.2.2.2.1.kept (h0 13 (by omega)) (k 87 (by omega) (by omega)) (k 95 (by omega) (by omega)), t, (Tm.kept (k 119 (by omega) (by omega)) (k 120 (by omega) (by omega))).trans q.2.2.2.2.2.2⟩
theorem MRep.setTp (q : MRep σ M L) {T : TT} (k : ∀ b, b ≠ 119 → b ≠ 120 → M1 b = M b) (t : Tm M1 L1 = T) : MRep (σ.1, σ.2.1, σ.2.2.1, σ.2.2.2.1, σ.2.2.2.2.1, T) M1 L1 := by
  have h0 : M1 80 = M 80 := k 80 (by omega) (by omega)
  exact ⟨⟨q.s.kept (fun j hj => by rw [h0]) (fun b h1 h2 => k b (by omega) (by omega)), (congrFun h0 29).trans q.1.2⟩, q.2.1.kept (fun j hj => by rw [h0]) (fun b h1 h2 => k b (by omega) (by omega)), q.2.2.1.kept (by rw [h0]) (fun b h1 h2 => k b (by omega) (by omega)), q.2.2.2.1.kept (fun j h1 h2 => by rw [h0]) (fun b h1 h2 => k b (by omega) (by omega)),
    q.2.2.2.2.1.kept (by rw [h0]) (k 87 (by omega) (by omega)) (k 95 (by omega) (by omega)), q.2.2.2.2.2.1.kept (by rw [h0]) (k 118 (by omega) (by omega)), t⟩
theorem FM.in (k : ∀ b, (b < 80 ∨ 122 < b) → M1 b = M b) : FM h M (h_l h) M1 := ⟨k, fun _ _ => rfl⟩
theorem PvM.zero {c a b : Nat} (e : M 80 c = nI 0) : PvM M c a b [] := ⟨e, fun i hi => absurd hi (Nat.not_lt_zero _)⟩
theorem PvM.add {c a b : Nat} {l : PL} {x y : Int32} (p : PvM M c a b l) (hab : a ≠ b) (ha : a ≠ 80) (hb : b ≠ 80) : PvM (mU (mU (mU M a (upd (M a) l.length x)) b (upd (mU M a (upd (M a) l.length x) b) l.length y)) 80 (upd (mU (mU M a (upd (M a) l.length x)) b (upd (mU M a (upd (M a) l.length x) b) l.length y) 80) c (nI l.length + nI 1))) c a b (l ++ [(x, y)]) := by
  refine ⟨by rw [mU_eq, pk_us, nI_add, List.length_append]; rfl, fun i hi => ?_⟩
  rw [List.length_append] at hi
  have hi : i < l.length + 1 := hi
  rw [mU_ne ha, mU_ne hab, mU_eq, mU_ne hb, mU_eq, mU_ne (fun z => hab z.symm)]
  by_cases e : i = l.length
  · subst e
    rw [pG_a2, pk_us, pk_us]
    exact ⟨rfl, rfl⟩
  · rw [pG_a1 (by omega), pk_un e, pk_un e]
    exact p.2 i (by omega)
theorem a3_ne {c a b q : Nat} {f1 f2 f3 : Nat → Int32} (h1 : q ≠ a) (h2 : q ≠ b) (h3 : q ≠ 80) : mU (mU (mU M a f1) b f2) 80 f3 q = M q := by rw [mU_ne h3, mU_ne h2, mU_ne h1]
theorem a3_80 {c a b j : Nat} {f1 f2 : Nat → Int32} {x : Int32} (ha : a ≠ 80) (hb : b ≠ 80) (h : j ≠ c) : mU (mU (mU M a f1) b f2) 80 (upd (mU (mU M a f1) b f2 80) c x) 80 j = M 80 j := by rw [mU_eq, pk_un h, mU_ne (fun z => hb z.symm), mU_ne (fun z => ha z.symm)]
end S42
theorem mtx_add {T : TX} {M : Mem} {s : Nat} (t : MTx T M) (h : ¬ 100 ≤ T.1) : MTx (txAdd T s) (mU (mU M 87 (upd (M 87) T.1 (nI s))) 80 (upd (mU M 87 (upd (M 87) T.1 (nI s)) 80) 13 (nI T.1 + nI 1))) := by
  unfold txAdd
  rw [if_neg h]
  refine ⟨⟨by rw [mU_eq, pk_us, nI_add], fun i hi => ?_⟩, fun i hi => by rw [mU_ne (by omega), mU_ne (by omega)]; exact t.2 i hi⟩
  rw [mU_ne (by omega), mU_eq]
  have hi : i < T.1 + 1 := hi
  show _ = nI (if i = T.1 then s else T.2 i)
  by_cases z : i = T.1
  · rw [if_pos z, z, pk_us]
  · rw [if_neg z, pk_un z]
    exact t.1.2 i (by omega)
set_option maxRecDepth 10000 in
set_option maxHeartbeats 4000000 in
theorem n_feed : ∀ (d : Nat) (x : Int32) {σ : SG} {h : hp_T} {M : Mem} {B0 : Nat} (C : CS h) (Q : MRep σ M (h_l h)) (O : OK B0 σ), Ex (d + 9) nX8_feed [.ref 80, .int x] (wi h M) 0 0 (QM (f_feed σ x) h M) := by
  intro d x σ h M B0 C Q O
  refine Ex.of mm_X8_feed (Nat.le_of_ble_eq_true rfl) fun w κ X hk hnm => ?_
  refine r_aload_n (pc := 0) X dX8_feed_0 rfl ?_
  refine r_iload_n (pc := 1) X dX8_feed_1 rfl ?_
  refine r_iconst (pc := 2) (v := (nI 0)) X dX8_feed_2 (by decide) ?_
  refine r_bipush (pc := 3) (v := (nI 127)) X dX8_feed_3 (by decide) ?_
  refine r_c0_3P (pc := 5) X rfl dX8_feed_5 tc_8_236 mm_X8_in (kc_80 C) rfl rfl (m_in (d + 8) x (nI 0) (nI 127)) (Nat.le_of_ble_eq_true rfl) ?_
  refine r_if_neB (pc := 8) X dX8_feed_8 (tgt := 14) (by decide) (fun c8 => ?_) (fun c8 => ?_)
  · obtain ⟨t, -, ht, rfl⟩ := inF_lo c8 (by omega) (by omega)
    have ct := nI_clamp (show t < 2 ^ 31 by omega)
    have h100 := O.2.2.2.1.1
    refine r_aload_n (pc := 14) X dX8_feed_14 rfl ?_
    refine r_getiW (pc := 15) X dX8_feed_15 tf_8_50 rfl (kc_80 C) Q.tx.1.1 ?_
    refine r_bipush (pc := 18) (v := (nI 100)) X dX8_feed_18 (by decide) ?_
    refine r_icmp_neN (pc := 20) X dX8_feed_20 (tgt := 26) (by decide) (by omega) (by omega) (fun c20 => ?_) (fun c20 => ?_)
    · refine r_aload_n (pc := 26) X dX8_feed_26 rfl ?_
      refine r_getr (pc := 27) X dX8_feed_27 tf_8_59 rfl (kc_80 C) (rc_80_16 C) ?_
      refine r_aload_n (pc := 30) X dX8_feed_30 rfl ?_
      refine r_getiW (pc := 31) X dX8_feed_31 tf_8_50 rfl (kc_80 C) Q.tx.1.1 ?_
      refine r_iload_n (pc := 34) X dX8_feed_34 rfl ?_
      refine r_iastW (pc := 35) X dX8_feed_35 (kc_87 C) rfl (show (sXt σ).1 < 100 by omega) (by omega) ?_
      refine r_aload_n (pc := 36) X dX8_feed_36 rfl ?_
      refine r_dup (pc := 37) X dX8_feed_37 rfl ?_
      refine r_getiW (pc := 38) X dX8_feed_38 tf_8_50 rfl (kc_80 C) (show mU M 87 _ 80 13 = nI (sXt σ).1 by rw [mU_ne (by omega)]; exact Q.tx.1.1) ?_
      refine r_iconst (pc := 41) (v := (nI 1)) X dX8_feed_41 (by decide) ?_
      refine r_iadd (pc := 42) X dX8_feed_42 ?_
      refine r_putiW (pc := 43) X dX8_feed_43 tf_8_50 rfl (Or.inl rfl) (kc_80 C) ⟨rfl, rfl⟩ ?_
      refine r_aload_n (pc := 46) X dX8_feed_46 rfl ?_
      refine r_getiW (pc := 47) X dX8_feed_47 tf_8_50 rfl (kc_80 C) (show mU _ 80 _ 80 13 = nI ((sXt σ).1 + 1) by rw [mU_eq, pk_us, nI_add]) ?_
      refine r_iret (pc := 50) X dX8_feed_50 rfl rfl ?_
      have q9 := Q.setTx (T := txAdd (sXt σ) t) (fun j hj => by rw [mU_eq, pk_un hj, mU_ne (by omega)]) (fun b h1 h2 => by rw [mU_ne h1, mU_ne h2]) (mtx_add Q.tx (by omega))
      refine ⟨QM.mk ?_ q9 (FM.in fun b hb => by rw [mU_ne (by omega), mU_ne (by omega)]), rfl⟩
      simp (decide := true) [f_feed, c8, ct, show ¬ 100 ≤ (sXt σ).1 by omega]
    · refine r_bipush (pc := 23) (v := (-4)) X dX8_feed_23 (by decide) ?_
      refine r_iret (pc := 25) X dX8_feed_25 rfl rfl ?_
      have e9 : txAdd (sXt σ) t = sXt σ := if_pos (by omega)
      refine ⟨QM.mk (σ1 := σ) ?_ Q FM.rf, rfl⟩
      simp (decide := true) [f_feed, c8, ct, e9, show 100 ≤ (sXt σ).1 by omega]
  · refine r_bipush (pc := 11) (v := (-2)) X dX8_feed_11 (by decide) ?_
    refine r_iret (pc := 13) X dX8_feed_13 rfl rfl ?_
    refine ⟨QM.mk (σ1 := σ) ?_ Q FM.rf, rfl⟩
    simp (decide := true) [f_feed, c8]
set_option maxRecDepth 10000 in
set_option maxHeartbeats 4000000 in
theorem n_see : ∀ (d : Nat) (p n : Int32) {σ : SG} {h : hp_T} {M : Mem} {B0 : Nat} (C : CS h) (Q : MRep σ M (h_l h)) (O : OK B0 σ), Ex (d + 9) nX8_see [.ref 80, .int p, .int n] (wi h M) 0 0 (QM (f_see σ p n) h M) := by
  intro d p n σ h M B0 C Q O
  have hcap := O.sn.1
  refine Ex.of mm_X8_see (Nat.le_of_ble_eq_true rfl) fun w κ X hk hnm => ?_
  refine r_iload_n (pc := 0) X dX8_see_0 rfl ?_
  refine r_iconst (pc := 1) (v := (-1)) X dX8_see_1 (by decide) ?_
  refine r_icmp_ne (pc := 2) X dX8_see_2 (tgt := 12) (by decide) (fun c2 => ?_) (fun c2 => ?_)
  · refine r_aload_n (pc := 12) X dX8_see_12 rfl ?_
    refine r_iload_n (pc := 13) X dX8_see_13 rfl ?_
    refine r_c0_1P (pc := 14) X rfl dX8_see_14 tc_8_247 mm_X8_isPerson (kc_80 C) rfl rfl (m_isPerson (d + 7) p C Q.s O.w) (Nat.le_of_ble_eq_true rfl) ?_
    refine r_if_neB (pc := 17) X dX8_see_17 (tgt := 22) (by decide) (fun c17 => ?_) (fun c17 => ?_)
    · refine r_aload_n (pc := 22) X dX8_see_22 rfl ?_
      refine r_iload_n (pc := 23) X dX8_see_23 rfl ?_
      refine r_iconst (pc := 24) (v := (nI 0)) X dX8_see_24 (by decide) ?_
      refine r_bipush (pc := 25) (v := (nI 60)) X dX8_see_25 (by decide) ?_
      refine r_c0_3P (pc := 27) X rfl dX8_see_27 tc_8_236 mm_X8_in (kc_80 C) rfl rfl (m_in (d + 8) n (nI 0) (nI 60)) (Nat.le_of_ble_eq_true rfl) ?_
      refine r_if_neB (pc := 30) X dX8_see_30 (tgt := 36) (by decide) (fun c30 => ?_) (fun c30 => ?_)
      · refine r_aload_n (pc := 36) X dX8_see_36 rfl ?_
        refine r_getiW (pc := 37) X dX8_see_37 tf_8_123 rfl (kc_80 C) Q.se.1 ?_
        refine r_bipush (pc := 40) (v := (nI 6)) X dX8_see_40 (by decide) ?_
        refine r_icmp_neN (pc := 42) X dX8_see_42 (tgt := 48) (by decide) (by omega) (by omega) (fun c42 => ?_) (fun c42 => ?_)
        · refine r_aload_n (pc := 48) X dX8_see_48 rfl ?_
          refine r_getr (pc := 49) X dX8_see_49 tf_8_126 rfl (kc_80 C) (rc_80_38 C) ?_
          refine r_aload_n (pc := 52) X dX8_see_52 rfl ?_
          refine r_getiW (pc := 53) X dX8_see_53 tf_8_123 rfl (kc_80 C) Q.se.1 ?_
          refine r_iload_n (pc := 56) X dX8_see_56 rfl ?_
          refine r_iastW (pc := 57) X dX8_see_57 (kc_100 C) rfl (show (sSe σ).length < 6 by omega) (by omega) ?_
          refine r_aload_n (pc := 58) X dX8_see_58 rfl ?_
          refine r_getr (pc := 59) X dX8_see_59 tf_8_129 rfl (kc_80 C) (rc_80_39 C) ?_
          refine r_aload_n (pc := 62) X dX8_see_62 rfl ?_
          refine r_getiW (pc := 63) X dX8_see_63 tf_8_123 rfl (kc_80 C) (show mU M 100 _ 80 37 = nI (sSe σ).length by rw [mU_ne (by omega)]; exact Q.se.1) ?_
          refine r_iload_n (pc := 66) X dX8_see_66 rfl ?_
          refine r_iastW (pc := 67) X dX8_see_67 (kc_101 C) rfl (show (sSe σ).length < 6 by omega) (by omega) ?_
          refine r_aload_n (pc := 68) X dX8_see_68 rfl ?_
          refine r_dup (pc := 69) X dX8_see_69 rfl ?_
          refine r_getiW (pc := 70) X dX8_see_70 tf_8_123 rfl (kc_80 C) (show mU _ 101 _ 80 37 = nI (sSe σ).length by rw [mU_ne (by omega), mU_ne (by omega)]; exact Q.se.1) ?_
          refine r_iconst (pc := 73) (v := (nI 1)) X dX8_see_73 (by decide) ?_
          refine r_iadd (pc := 74) X dX8_see_74 ?_
          refine r_putiW (pc := 75) X dX8_see_75 tf_8_123 rfl (Or.inl rfl) (kc_80 C) ⟨rfl, rfl⟩ ?_
          refine r_aload_n (pc := 78) X dX8_see_78 rfl ?_
          refine r_getiW (pc := 79) X dX8_see_79 tf_8_123 rfl (kc_80 C) (show mU _ 80 _ 80 37 = nI ((sSe σ).length + 1) by rw [mU_eq, pk_us, nI_add]) ?_
          refine r_iret (pc := 82) X dX8_see_82 rfl rfl ?_
          have q9 := Q.setLs (fun j h1 h2 h3 => a3_80 (by omega) (by omega) (by omega)) (fun b h1 h2 => a3_ne (c := 0) (by omega) (by omega) h1) (Q.se.add (x := p) (y := n) (by omega) (by omega) (by omega)) (Q.ga.kept (a3_80 (by omega) (by omega) (by omega)) (a3_ne (c := 0) (by omega) (by omega) (by omega)) (a3_ne (c := 0) (by omega) (by omega) (by omega))) (Q.bo.kept (a3_80 (by omega) (by omega) (by omega)) (a3_ne (c := 0) (by omega) (by omega) (by omega)) (a3_ne (c := 0) (by omega) (by omega) (by omega)))
          refine ⟨QM.mk ?_ q9 (FM.in fun b hb => a3_ne (c := 0) (by omega) (by omega) (by omega)), rfl⟩
          simp (decide := true) [f_see, c2, c17, c30, show ¬ 6 ≤ (sSe σ).length by omega]
        · refine r_bipush (pc := 45) (v := (-4)) X dX8_see_45 (by decide) ?_
          refine r_iret (pc := 47) X dX8_see_47 rfl rfl ?_
          refine ⟨QM.mk (σ1 := σ) ?_ Q FM.rf, rfl⟩
          simp (decide := true) [f_see, c2, c17, c30, show 6 ≤ (sSe σ).length by omega]
      · refine r_bipush (pc := 33) (v := (-2)) X dX8_see_33 (by decide) ?_
        refine r_iret (pc := 35) X dX8_see_35 rfl rfl ?_
        refine ⟨QM.mk (σ1 := σ) ?_ Q FM.rf, rfl⟩
        simp (decide := true) [f_see, c2, c17, c30]
    · refine r_iconst (pc := 20) (v := (-1)) X dX8_see_20 (by decide) ?_
      refine r_iret (pc := 21) X dX8_see_21 rfl rfl ?_
      refine ⟨QM.mk (σ1 := σ) ?_ Q FM.rf, rfl⟩
      simp (decide := true) [f_see, c2, c17]
  · refine r_aload_n (pc := 5) X dX8_see_5 rfl ?_
    refine r_iconst (pc := 6) (v := (nI 0)) X dX8_see_6 (by decide) ?_
    refine r_putiW (pc := 7) X dX8_see_7 tf_8_123 rfl (Or.inl rfl) (kc_80 C) ⟨rfl, rfl⟩ ?_
    refine r_iconst (pc := 10) (v := (nI 0)) X dX8_see_10 (by decide) ?_
    refine r_iret (pc := 11) X dX8_see_11 rfl rfl ?_
    have q9 := Q.setLs (M1 := mU M 80 (upd (M 80) 37 (nI 0))) (fun j h1 h2 h3 => by rw [mU_eq]; exact pk_un (by omega)) (fun b h1 h2 => mU_ne h1) (PvM.zero (by rw [mU_eq]; exact pk_us)) (Q.ga.kept (by rw [mU_eq]; exact pk_un (by omega)) (mU_ne (by omega)) (mU_ne (by omega))) (Q.bo.kept (by rw [mU_eq]; exact pk_un (by omega)) (mU_ne (by omega)) (mU_ne (by omega)))
    refine ⟨QM.mk ?_ q9 (FM.in fun b hb => mU_ne (by omega)), rfl⟩
    simp (decide := true) [f_see, c2]
set_option maxRecDepth 10000 in
set_option maxHeartbeats 4000000 in
theorem n_book : ∀ (d : Nat) (p n : Int32) {σ : SG} {h : hp_T} {M : Mem} {B0 : Nat} (C : CS h) (Q : MRep σ M (h_l h)) (O : OK B0 σ), Ex (d + 9) nX8_book [.ref 80, .int p, .int n] (wi h M) 0 0 (QM (f_book σ p n) h M) := by
  intro d p n σ h M B0 C Q O
  have hcap := O.bk.1
  refine Ex.of mm_X8_book (Nat.le_of_ble_eq_true rfl) fun w κ X hk hnm => ?_
  refine r_iload_n (pc := 0) X dX8_book_0 rfl ?_
  refine r_iconst (pc := 1) (v := (-1)) X dX8_book_1 (by decide) ?_
  refine r_icmp_ne (pc := 2) X dX8_book_2 (tgt := 12) (by decide) (fun c2 => ?_) (fun c2 => ?_)
  · refine r_aload_n (pc := 12) X dX8_book_12 rfl ?_
    refine r_iload_n (pc := 13) X dX8_book_13 rfl ?_
    refine r_c0_1P (pc := 14) X rfl dX8_book_14 tc_8_247 mm_X8_isPerson (kc_80 C) rfl rfl (m_isPerson (d + 7) p C Q.s O.w) (Nat.le_of_ble_eq_true rfl) ?_
    refine r_if_neB (pc := 17) X dX8_book_17 (tgt := 22) (by decide) (fun c17 => ?_) (fun c17 => ?_)
    · refine r_aload_n (pc := 22) X dX8_book_22 rfl ?_
      refine r_iload_n (pc := 23) X dX8_book_23 rfl ?_
      refine r_iconst (pc := 24) (v := (nI 0)) X dX8_book_24 (by decide) ?_
      refine r_sipush (pc := 25) (v := (nI 9999)) X dX8_book_25 (by decide) ?_
      refine r_c0_3P (pc := 28) X rfl dX8_book_28 tc_8_236 mm_X8_in (kc_80 C) rfl rfl (m_in (d + 8) n (nI 0) (nI 9999)) (Nat.le_of_ble_eq_true rfl) ?_
      refine r_if_neB (pc := 31) X dX8_book_31 (tgt := 37) (by decide) (fun c31 => ?_) (fun c31 => ?_)
      · refine r_aload_n (pc := 37) X dX8_book_37 rfl ?_
        refine r_getiW (pc := 38) X dX8_book_38 tf_8_135 rfl (kc_80 C) Q.bo.1 ?_
        refine r_bipush (pc := 41) (v := (nI 8)) X dX8_book_41 (by decide) ?_
        refine r_icmp_neN (pc := 43) X dX8_book_43 (tgt := 49) (by decide) (by omega) (by omega) (fun c43 => ?_) (fun c43 => ?_)
        · refine r_aload_n (pc := 49) X dX8_book_49 rfl ?_
          refine r_getr (pc := 50) X dX8_book_50 tf_8_144 rfl (kc_80 C) (rc_80_44 C) ?_
          refine r_aload_n (pc := 53) X dX8_book_53 rfl ?_
          refine r_getiW (pc := 54) X dX8_book_54 tf_8_135 rfl (kc_80 C) Q.bo.1 ?_
          refine r_iload_n (pc := 57) X dX8_book_57 rfl ?_
          refine r_iastW (pc := 58) X dX8_book_58 (kc_104 C) rfl (show (sBo σ).length < 8 by omega) (by omega) ?_
          refine r_aload_n (pc := 59) X dX8_book_59 rfl ?_
          refine r_getr (pc := 60) X dX8_book_60 tf_8_147 rfl (kc_80 C) (rc_80_45 C) ?_
          refine r_aload_n (pc := 63) X dX8_book_63 rfl ?_
          refine r_getiW (pc := 64) X dX8_book_64 tf_8_135 rfl (kc_80 C) (show mU M 104 _ 80 41 = nI (sBo σ).length by rw [mU_ne (by omega)]; exact Q.bo.1) ?_
          refine r_iload_n (pc := 67) X dX8_book_67 rfl ?_
          refine r_iastW (pc := 68) X dX8_book_68 (kc_105 C) rfl (show (sBo σ).length < 8 by omega) (by omega) ?_
          refine r_aload_n (pc := 69) X dX8_book_69 rfl ?_
          refine r_dup (pc := 70) X dX8_book_70 rfl ?_
          refine r_getiW (pc := 71) X dX8_book_71 tf_8_135 rfl (kc_80 C) (show mU _ 105 _ 80 41 = nI (sBo σ).length by rw [mU_ne (by omega), mU_ne (by omega)]; exact Q.bo.1) ?_
          refine r_iconst (pc := 74) (v := (nI 1)) X dX8_book_74 (by decide) ?_
          refine r_iadd (pc := 75) X dX8_book_75 ?_
          refine r_putiW (pc := 76) X dX8_book_76 tf_8_135 rfl (Or.inl rfl) (kc_80 C) ⟨rfl, rfl⟩ ?_
          refine r_aload_n (pc := 79) X dX8_book_79 rfl ?_
          refine r_getiW (pc := 80) X dX8_book_80 tf_8_135 rfl (kc_80 C) (show mU _ 80 _ 80 41 = nI ((sBo σ).length + 1) by rw [mU_eq, pk_us, nI_add]) ?_
          refine r_iret (pc := 83) X dX8_book_83 rfl rfl ?_
          have q9 := Q.setLs (fun j h1 h2 h3 => a3_80 (by omega) (by omega) (by omega)) (fun b h1 h2 => a3_ne (c := 0) (by omega) (by omega) h1) (Q.se.kept (a3_80 (by omega) (by omega) (by omega)) (a3_ne (c := 0) (by omega) (by omega) (by omega)) (a3_ne (c := 0) (by omega) (by omega) (by omega))) (Q.ga.kept (a3_80 (by omega) (by omega) (by omega)) (a3_ne (c := 0) (by omega) (by omega) (by omega)) (a3_ne (c := 0) (by omega) (by omega) (by omega))) (Q.bo.add (x := p) (y := n) (by omega) (by omega) (by omega))
          refine ⟨QM.mk ?_ q9 (FM.in fun b hb => a3_ne (c := 0) (by omega) (by omega) (by omega)), rfl⟩
          simp (decide := true) [f_book, c2, c17, c31, show ¬ 8 ≤ (sBo σ).length by omega]
        · refine r_bipush (pc := 46) (v := (-4)) X dX8_book_46 (by decide) ?_
          refine r_iret (pc := 48) X dX8_book_48 rfl rfl ?_
          refine ⟨QM.mk (σ1 := σ) ?_ Q FM.rf, rfl⟩
          simp (decide := true) [f_book, c2, c17, c31, show 8 ≤ (sBo σ).length by omega]
      · refine r_bipush (pc := 34) (v := (-2)) X dX8_book_34 (by decide) ?_
        refine r_iret (pc := 36) X dX8_book_36 rfl rfl ?_
        refine ⟨QM.mk (σ1 := σ) ?_ Q FM.rf, rfl⟩
        simp (decide := true) [f_book, c2, c17, c31]
    · refine r_iconst (pc := 20) (v := (-1)) X dX8_book_20 (by decide) ?_
      refine r_iret (pc := 21) X dX8_book_21 rfl rfl ?_
      refine ⟨QM.mk (σ1 := σ) ?_ Q FM.rf, rfl⟩
      simp (decide := true) [f_book, c2, c17]
  · refine r_aload_n (pc := 5) X dX8_book_5 rfl ?_
    refine r_iconst (pc := 6) (v := (nI 0)) X dX8_book_6 (by decide) ?_
    refine r_putiW (pc := 7) X dX8_book_7 tf_8_135 rfl (Or.inl rfl) (kc_80 C) ⟨rfl, rfl⟩ ?_
    refine r_iconst (pc := 10) (v := (nI 0)) X dX8_book_10 (by decide) ?_
    refine r_iret (pc := 11) X dX8_book_11 rfl rfl ?_
    have q9 := Q.setLs (M1 := mU M 80 (upd (M 80) 41 (nI 0))) (fun j h1 h2 h3 => by rw [mU_eq]; exact pk_un (by omega)) (fun b h1 h2 => mU_ne h1) (Q.se.kept (by rw [mU_eq]; exact pk_un (by omega)) (mU_ne (by omega)) (mU_ne (by omega))) (Q.ga.kept (by rw [mU_eq]; exact pk_un (by omega)) (mU_ne (by omega)) (mU_ne (by omega))) (PvM.zero (by rw [mU_eq]; exact pk_us))
    refine ⟨QM.mk ?_ q9 (FM.in fun b hb => mU_ne (by omega)), rfl⟩
    simp (decide := true) [f_book, c2]
set_option maxRecDepth 10000 in
set_option maxHeartbeats 4000000 in
theorem n_game : ∀ (d : Nat) (x p : Int32) {σ : SG} {h : hp_T} {M : Mem} {B0 : Nat} (C : CS h) (Q : MRep σ M (h_l h)) (O : OK B0 σ), Ex (d + 9) nX8_game [.ref 80, .int x, .int p] (wi h M) 0 0 (QM (f_game σ x p) h M) := by
  intro d x p σ h M B0 C Q O
  have hcap := O.gm.1
  refine Ex.of mm_X8_game (Nat.le_of_ble_eq_true rfl) fun w κ X hk hnm => ?_
  refine r_iload_n (pc := 0) X dX8_game_0 rfl ?_
  refine r_iconst (pc := 1) (v := (-1)) X dX8_game_1 (by decide) ?_
  refine r_icmp_ne (pc := 2) X dX8_game_2 (tgt := 12) (by decide) (fun c2 => ?_) (fun c2 => ?_)
  · refine r_aload_n (pc := 12) X dX8_game_12 rfl ?_
    refine r_iload_n (pc := 13) X dX8_game_13 rfl ?_
    refine r_iconst (pc := 14) (v := (nI 0)) X dX8_game_14 (by decide) ?_
    refine r_iconst (pc := 15) (v := (nI 2)) X dX8_game_15 (by decide) ?_
    refine r_c0_3P (pc := 16) X rfl dX8_game_16 tc_8_236 mm_X8_in (kc_80 C) rfl rfl (m_in (d + 8) x (nI 0) (nI 2)) (Nat.le_of_ble_eq_true rfl) ?_
    refine r_if_eqB (pc := 19) X dX8_game_19 (tgt := 35) (by decide) (fun c19 => ?_) (fun c19 => ?_)
    · refine r_iconst (pc := 35) (v := (-1)) X dX8_game_35 (by decide) ?_
      refine r_iret (pc := 36) X dX8_game_36 rfl rfl ?_
      refine ⟨QM.mk (σ1 := σ) ?_ Q FM.rf, rfl⟩
      simp (decide := true) [f_game, c2, c19]
    · refine r_iload_n (pc := 22) X dX8_game_22 rfl ?_
      refine r_iconst (pc := 23) (v := (nI 2)) X dX8_game_23 (by decide) ?_
      refine r_icmp_ne (pc := 24) X dX8_game_24 (tgt := 37) (by decide) (fun c24 => ?_) (fun c24 => ?_)
      · refine r_aload_n (pc := 37) X dX8_game_37 rfl ?_
        refine r_getiW (pc := 38) X dX8_game_38 tf_8_132 rfl (kc_80 C) Q.ga.1 ?_
        refine r_bipush (pc := 41) (v := (nI 10)) X dX8_game_41 (by decide) ?_
        refine r_icmp_neN (pc := 43) X dX8_game_43 (tgt := 49) (by decide) (by omega) (by omega) (fun c43 => ?_) (fun c43 => ?_)
        · refine r_aload_n (pc := 49) X dX8_game_49 rfl ?_
          refine r_getr (pc := 50) X dX8_game_50 tf_8_138 rfl (kc_80 C) (rc_80_42 C) ?_
          refine r_aload_n (pc := 53) X dX8_game_53 rfl ?_
          refine r_getiW (pc := 54) X dX8_game_54 tf_8_132 rfl (kc_80 C) Q.ga.1 ?_
          refine r_iload_n (pc := 57) X dX8_game_57 rfl ?_
          refine r_iastW (pc := 58) X dX8_game_58 (kc_102 C) rfl (show (sGa σ).length < 10 by omega) (by omega) ?_
          refine r_aload_n (pc := 59) X dX8_game_59 rfl ?_
          refine r_getr (pc := 60) X dX8_game_60 tf_8_141 rfl (kc_80 C) (rc_80_43 C) ?_
          refine r_aload_n (pc := 63) X dX8_game_63 rfl ?_
          refine r_getiW (pc := 64) X dX8_game_64 tf_8_132 rfl (kc_80 C) (show mU M 102 _ 80 40 = nI (sGa σ).length by rw [mU_ne (by omega)]; exact Q.ga.1) ?_
          refine r_iload_n (pc := 67) X dX8_game_67 rfl ?_
          refine r_iconst (pc := 68) (v := (nI 2)) X dX8_game_68 (by decide) ?_
          refine r_icmp_ne (pc := 69) X dX8_game_69 (tgt := 76) (by decide) (fun c69 => ?_) (fun c69 => ?_)
          · refine r_iconst (pc := 76) (v := (nI 0)) X dX8_game_76 (by decide) ?_
            refine r_iastW (pc := 77) X dX8_game_77 (kc_103 C) rfl (show (sGa σ).length < 10 by omega) (by omega) ?_
            refine r_aload_n (pc := 78) X dX8_game_78 rfl ?_
            refine r_dup (pc := 79) X dX8_game_79 rfl ?_
            refine r_getiW (pc := 80) X dX8_game_80 tf_8_132 rfl (kc_80 C) (show mU _ 103 _ 80 40 = nI (sGa σ).length by rw [mU_ne (by omega), mU_ne (by omega)]; exact Q.ga.1) ?_
            refine r_iconst (pc := 83) (v := (nI 1)) X dX8_game_83 (by decide) ?_
            refine r_iadd (pc := 84) X dX8_game_84 ?_
            refine r_putiW (pc := 85) X dX8_game_85 tf_8_132 rfl (Or.inl rfl) (kc_80 C) ⟨rfl, rfl⟩ ?_
            refine r_aload_n (pc := 88) X dX8_game_88 rfl ?_
            refine r_getiW (pc := 89) X dX8_game_89 tf_8_132 rfl (kc_80 C) (show mU _ 80 _ 80 40 = nI ((sGa σ).length + 1) by rw [mU_eq, pk_us, nI_add]) ?_
            refine r_iret (pc := 92) X dX8_game_92 rfl rfl ?_
            have q9 := Q.setLs (fun j h1 h2 h3 => a3_80 (by omega) (by omega) (by omega)) (fun b h1 h2 => a3_ne (c := 0) (by omega) (by omega) h1) (Q.se.kept (a3_80 (by omega) (by omega) (by omega)) (a3_ne (c := 0) (by omega) (by omega) (by omega)) (a3_ne (c := 0) (by omega) (by omega) (by omega))) (Q.ga.add (x := x) (y := (nI 0)) (by omega) (by omega) (by omega)) (Q.bo.kept (a3_80 (by omega) (by omega) (by omega)) (a3_ne (c := 0) (by omega) (by omega) (by omega)) (a3_ne (c := 0) (by omega) (by omega) (by omega)))
            refine ⟨QM.mk ?_ q9 (FM.in fun b hb => a3_ne (c := 0) (by omega) (by omega) (by omega)), rfl⟩
            simp (decide := true) [f_game, c2, c19, c24, c43, c69, show ¬ 10 ≤ (sGa σ).length by omega]
          · exact absurd c69 c24
        · refine r_bipush (pc := 46) (v := (-4)) X dX8_game_46 (by decide) ?_
          refine r_iret (pc := 48) X dX8_game_48 rfl rfl ?_
          refine ⟨QM.mk (σ1 := σ) ?_ Q FM.rf, rfl⟩
          simp (decide := true) [f_game, c2, c19, c24, c43, show 10 ≤ (sGa σ).length by omega]
      · refine r_aload_n (pc := 27) X dX8_game_27 rfl ?_
        refine r_iload_n (pc := 28) X dX8_game_28 rfl ?_
        refine r_c0_1P (pc := 29) X rfl dX8_game_29 tc_8_247 mm_X8_isPerson (kc_80 C) rfl rfl (m_isPerson (d + 7) p C Q.s O.w) (Nat.le_of_ble_eq_true rfl) ?_
        refine r_if_neB (pc := 32) X dX8_game_32 (tgt := 37) (by decide) (fun c32 => ?_) (fun c32 => ?_)
        · refine r_aload_n (pc := 37) X dX8_game_37 rfl ?_
          refine r_getiW (pc := 38) X dX8_game_38 tf_8_132 rfl (kc_80 C) Q.ga.1 ?_
          refine r_bipush (pc := 41) (v := (nI 10)) X dX8_game_41 (by decide) ?_
          refine r_icmp_neN (pc := 43) X dX8_game_43 (tgt := 49) (by decide) (by omega) (by omega) (fun c43 => ?_) (fun c43 => ?_)
          · refine r_aload_n (pc := 49) X dX8_game_49 rfl ?_
            refine r_getr (pc := 50) X dX8_game_50 tf_8_138 rfl (kc_80 C) (rc_80_42 C) ?_
            refine r_aload_n (pc := 53) X dX8_game_53 rfl ?_
            refine r_getiW (pc := 54) X dX8_game_54 tf_8_132 rfl (kc_80 C) Q.ga.1 ?_
            refine r_iload_n (pc := 57) X dX8_game_57 rfl ?_
            refine r_iastW (pc := 58) X dX8_game_58 (kc_102 C) rfl (show (sGa σ).length < 10 by omega) (by omega) ?_
            refine r_aload_n (pc := 59) X dX8_game_59 rfl ?_
            refine r_getr (pc := 60) X dX8_game_60 tf_8_141 rfl (kc_80 C) (rc_80_43 C) ?_
            refine r_aload_n (pc := 63) X dX8_game_63 rfl ?_
            refine r_getiW (pc := 64) X dX8_game_64 tf_8_132 rfl (kc_80 C) (show mU M 102 _ 80 40 = nI (sGa σ).length by rw [mU_ne (by omega)]; exact Q.ga.1) ?_
            refine r_iload_n (pc := 67) X dX8_game_67 rfl ?_
            refine r_iconst (pc := 68) (v := (nI 2)) X dX8_game_68 (by decide) ?_
            refine r_icmp_ne (pc := 69) X dX8_game_69 (tgt := 76) (by decide) (fun c69 => ?_) (fun c69 => ?_)
            · exact absurd c24 c69
            · refine r_iload_n (pc := 72) X dX8_game_72 rfl ?_
              refine r_goto (pc := 73) X dX8_game_73 (tgt := 77) (by decide) ?_
              refine r_iastW (pc := 77) X dX8_game_77 (kc_103 C) rfl (show (sGa σ).length < 10 by omega) (by omega) ?_
              refine r_aload_n (pc := 78) X dX8_game_78 rfl ?_
              refine r_dup (pc := 79) X dX8_game_79 rfl ?_
              refine r_getiW (pc := 80) X dX8_game_80 tf_8_132 rfl (kc_80 C) (show mU _ 103 _ 80 40 = nI (sGa σ).length by rw [mU_ne (by omega), mU_ne (by omega)]; exact Q.ga.1) ?_
              refine r_iconst (pc := 83) (v := (nI 1)) X dX8_game_83 (by decide) ?_
              refine r_iadd (pc := 84) X dX8_game_84 ?_
              refine r_putiW (pc := 85) X dX8_game_85 tf_8_132 rfl (Or.inl rfl) (kc_80 C) ⟨rfl, rfl⟩ ?_
              refine r_aload_n (pc := 88) X dX8_game_88 rfl ?_
              refine r_getiW (pc := 89) X dX8_game_89 tf_8_132 rfl (kc_80 C) (show mU _ 80 _ 80 40 = nI ((sGa σ).length + 1) by rw [mU_eq, pk_us, nI_add]) ?_
              refine r_iret (pc := 92) X dX8_game_92 rfl rfl ?_
              have q9 := Q.setLs (fun j h1 h2 h3 => a3_80 (by omega) (by omega) (by omega)) (fun b h1 h2 => a3_ne (c := 0) (by omega) (by omega) h1) (Q.se.kept (a3_80 (by omega) (by omega) (by omega)) (a3_ne (c := 0) (by omega) (by omega) (by omega)) (a3_ne (c := 0) (by omega) (by omega) (by omega))) (Q.ga.add (x := x) (y := p) (by omega) (by omega) (by omega)) (Q.bo.kept (a3_80 (by omega) (by omega) (by omega)) (a3_ne (c := 0) (by omega) (by omega) (by omega)) (a3_ne (c := 0) (by omega) (by omega) (by omega)))
              refine ⟨QM.mk ?_ q9 (FM.in fun b hb => a3_ne (c := 0) (by omega) (by omega) (by omega)), rfl⟩
              simp (decide := true) [f_game, c2, c19, c24, c32, c43, c69, show ¬ 10 ≤ (sGa σ).length by omega]
          · refine r_bipush (pc := 46) (v := (-4)) X dX8_game_46 (by decide) ?_
            refine r_iret (pc := 48) X dX8_game_48 rfl rfl ?_
            refine ⟨QM.mk (σ1 := σ) ?_ Q FM.rf, rfl⟩
            simp (decide := true) [f_game, c2, c19, c24, c32, c43, show 10 ≤ (sGa σ).length by omega]
        · refine r_iconst (pc := 35) (v := (-1)) X dX8_game_35 (by decide) ?_
          refine r_iret (pc := 36) X dX8_game_36 rfl rfl ?_
          refine ⟨QM.mk (σ1 := σ) ?_ Q FM.rf, rfl⟩
          simp (decide := true) [f_game, c2, c19, c24, c32]
  · refine r_aload_n (pc := 5) X dX8_game_5 rfl ?_
    refine r_iconst (pc := 6) (v := (nI 0)) X dX8_game_6 (by decide) ?_
    refine r_putiW (pc := 7) X dX8_game_7 tf_8_132 rfl (Or.inl rfl) (kc_80 C) ⟨rfl, rfl⟩ ?_
    refine r_iconst (pc := 10) (v := (nI 0)) X dX8_game_10 (by decide) ?_
    refine r_iret (pc := 11) X dX8_game_11 rfl rfl ?_
    have q9 := Q.setLs (M1 := mU M 80 (upd (M 80) 40 (nI 0))) (fun j h1 h2 h3 => by rw [mU_eq]; exact pk_un (by omega)) (fun b h1 h2 => mU_ne h1) (Q.se.kept (by rw [mU_eq]; exact pk_un (by omega)) (mU_ne (by omega)) (mU_ne (by omega))) (PvM.zero (by rw [mU_eq]; exact pk_us)) (Q.bo.kept (by rw [mU_eq]; exact pk_un (by omega)) (mU_ne (by omega)) (mU_ne (by omega)))
    refine ⟨QM.mk ?_ q9 (FM.in fun b hb => mU_ne (by omega)), rfl⟩
    simp (decide := true) [f_game, c2]
set_option maxRecDepth 10000 in
set_option maxHeartbeats 4000000 in
theorem lm_looked : ∀ (d : Nat) {σ : SG} {h : hp_T} {M : Mem} {B0 : Nat} (C : CS h) (Q : MRep σ M (h_l h)) (O : OK B0 σ) {w : wc_T} {κ : cx_T} {Φ : Option Value → hp_T → Prop} (X : CX w κ (d + 9) 8 cX8_looked 2 (some .int) Φ) {rr : Int32}
    (hΦ : Φ (some (.int rr)) (wi h M)), ∀ (m k : Nat), k + m = (sBo σ).length → lkF (sV σ) (sBo σ) m k = rr → GG w κ 2 [some (.ref 80), some (.int (nI k))] [] (wi h M) := by
  intro d σ h M B0 C Q O w κ Φ X rr hΦ m
  have bo := Q.bo
  have bk := O.bk
  have b8 := bk.1
  induction m with
  | zero =>
    intro k hk hA
    have e : k = (sBo σ).length := by omega
    subst e
    subst hA
    refine r_iload_n (pc := 2) X dX8_looked_2 rfl ?_
    refine r_aload_n (pc := 3) X dX8_looked_3 rfl ?_
    refine r_getiW (pc := 4) X dX8_looked_4 tf_8_135 rfl (kc_80 C) bo.1 ?_
    refine r_icmp_geN (pc := 7) X dX8_looked_7 (tgt := 38) (by decide) (by omega) (by omega) (fun c7 => ?_) (fun c7 => ?_)
    · refine r_bipush (pc := 38) (v := (-5)) X dX8_looked_38 (by decide) ?_
      refine r_iret (pc := 40) X dX8_looked_40 rfl rfl ?_
      exact hΦ
    · exact absurd (Nat.le_refl _) c7
  | succ m ih =>
    intro k hk hA
    have hkl : k < (sBo σ).length := by omega
    obtain ⟨p, n, hp, hn, e⟩ := bk.2 k hkl
    have h6 := O.w.2.1
    have eL : M 104 k = nI p := by rw [(bo.2 k hkl).1, e]
    have eR : M 105 k = nI n := by rw [(bo.2 k hkl).2, e]
    have ec : sV σ 5 (pG (sBo σ) k).1.toNatClampNeg = sV σ 5 p := by rw [e, nI_clamp (by omega)]
    have ed : (pG (sBo σ) k).2 = nI n := by rw [e]
    refine r_iload_n (pc := 2) X dX8_looked_2 rfl ?_
    refine r_aload_n (pc := 3) X dX8_looked_3 rfl ?_
    refine r_getiW (pc := 4) X dX8_looked_4 tf_8_135 rfl (kc_80 C) bo.1 ?_
    refine r_icmp_geN (pc := 7) X dX8_looked_7 (tgt := 38) (by decide) (by omega) (by omega) (fun c7 => ?_) (fun c7 => ?_)
    · exact absurd c7 (by omega)
    · refine r_aload_n (pc := 10) X dX8_looked_10 rfl ?_
      refine r_getr (pc := 11) X dX8_looked_11 tf_8_38 rfl (kc_80 C) (rc_80_9 C) ?_
      refine r_aload_n (pc := 14) X dX8_looked_14 rfl ?_
      refine r_getr (pc := 15) X dX8_looked_15 tf_8_144 rfl (kc_80 C) (rc_80_44 C) ?_
      refine r_iload_n (pc := 18) X dX8_looked_18 rfl ?_
      refine r_ialdW (pc := 19) X dX8_looked_19 (kc_104 C) rfl (show k < 8 by omega) (by omega) eL ?_
      refine r_ialdW (pc := 20) X dX8_looked_20 (kc_85 C) rfl (show p < 6 by omega) (by omega) (Q.s.a5 p) ?_
      refine r_aload_n (pc := 21) X dX8_looked_21 rfl ?_
      refine r_getr (pc := 22) X dX8_looked_22 tf_8_147 rfl (kc_80 C) (rc_80_45 C) ?_
      refine r_iload_n (pc := 25) X dX8_looked_25 rfl ?_
      refine r_ialdW (pc := 26) X dX8_looked_26 (kc_105 C) rfl (show k < 8 by omega) (by omega) eR ?_
      refine r_icmp_eq (pc := 27) X dX8_looked_27 (tgt := 32) (by decide) (fun c27 => ?_) (fun c27 => ?_)
      · refine r_iinc (pc := 32) X dX8_looked_32 rfl (by first | exact nI_i1 _ | rfl) ?_
        refine r_goto (pc := 35) X dX8_looked_35 (tgt := 2) (by decide) ?_
        exact ih (k + 1) (by omega) ((if_pos (by rw [ec, ed]; exact c27)).symm.trans hA)
      · refine r_iload_n (pc := 30) X dX8_looked_30 rfl ?_
        refine r_iret (pc := 31) X dX8_looked_31 rfl rfl ?_
        have e9 : lkF (sV σ) (sBo σ) (m + 1) k = nI k := if_neg (by rw [ec, ed]; exact c27)
        rw [e9] at hA
        subst hA
        exact hΦ
set_option maxRecDepth 10000 in
set_option maxHeartbeats 4000000 in
theorem n_looked : ∀ (d : Nat) {σ : SG} {h : hp_T} {M : Mem} {B0 : Nat} (C : CS h) (Q : MRep σ M (h_l h)) (O : OK B0 σ), Ex (d + 9) nX8_looked [.ref 80] (wi h M) 0 0 (QM (f_looked σ) h M) := by
  intro d σ h M B0 C Q O
  refine Ex.of mm_X8_looked (Nat.le_of_ble_eq_true rfl) fun w κ X hk hnm => ?_
  refine r_iconst (pc := 0) (v := (nI 0)) X dX8_looked_0 (by decide) ?_
  refine r_istore_n (pc := 1) X dX8_looked_1 (Nat.le_of_ble_eq_true rfl) ?_
  exact lm_looked d C Q O X ⟨QM.mk rfl Q FM.rf, rfl⟩ (sBo σ).length 0 (by omega) rfl
theorem und_n : ∀ k, k < 7 → ∀ t, t < 7 → undF 7 (nI k) (nI t) = (decide (t = 0) || decide (k = t) || (decide (t = 1) && decide (k = 4)) || (decide (t = 2) && decide (k = 5)) || (decide (t = 3) && decide (k = 6))) := by decide +kernel
set_option maxRecDepth 10000 in
set_option maxHeartbeats 4000000 in
theorem n_trace : ∀ (d : Nat) (x : Int32) {σ : SG} {h : hp_T} {M : Mem} {B0 : Nat} (C : CS h) (Q : MRep σ M (h_l h)) (O : OK B0 σ), Ex (d + 9) nX8_trace [.ref 80, .int x] (wi h M) 0 0 (QM (f_trace σ x) h M) := by
  intro d x σ h M B0 C Q O
  have hl := O.2.2.2.2.1
  have bl := Q.bl
  refine Ex.of mm_X8_trace (Nat.le_of_ble_eq_true rfl) fun w κ X hk hnm => ?_
  refine r_aload_n (pc := 0) X dX8_trace_0 rfl ?_
  refine r_iload_n (pc := 1) X dX8_trace_1 rfl ?_
  refine r_iconst (pc := 2) (v := (nI 0)) X dX8_trace_2 (by decide) ?_
  refine r_bipush (pc := 3) (v := (nI 19)) X dX8_trace_3 (by decide) ?_
  refine r_c0_3P (pc := 5) X rfl dX8_trace_5 tc_8_236 mm_X8_in (kc_80 C) rfl rfl (m_in (d + 8) x (nI 0) (nI 19)) (Nat.le_of_ble_eq_true rfl) ?_
  refine r_if_eqB (pc := 8) X dX8_trace_8 (tgt := 28) (by decide) (fun c8 => ?_) (fun c8 => ?_)
  · refine r_iconst (pc := 28) (v := (-1)) X dX8_trace_28 (by decide) ?_
    refine r_iret (pc := 29) X dX8_trace_29 rfl rfl ?_
    refine ⟨QM.mk (σ1 := σ) ?_ Q FM.rf, rfl⟩
    unfold f_trace
    unfold inF at c8
    by_cases z : x < 0
    · rw [if_pos z]
    · rw [if_neg z]
      rw [decide_eq_false (show ¬ x < nI 0 from z)] at c8
      have z2 : nI 19 < x := by
        cases e : decide (nI 19 < x) with
        | true => exact of_decide_eq_true e
        | false => rw [e] at c8; cases c8
      obtain ⟨j, hj, ej⟩ := nI_of z
      subst ej
      have j20 := (nI_ltI (by omega) hj).mp z2
      rw [if_pos (show nI (sBl σ).length ≤ nI j from nI_le (by omega) hj)]
  · obtain ⟨t, -, ht, rfl⟩ := inF_lo c8 (by omega) (by omega)
    have ct := nI_clamp (show t < 2 ^ 31 by omega)
    refine r_iload_n (pc := 11) X dX8_trace_11 rfl ?_
    refine r_aload_n (pc := 12) X dX8_trace_12 rfl ?_
    refine r_getiW (pc := 13) X dX8_trace_13 tf_8_217 rfl (kc_80 C) bl.1 ?_
    refine r_icmp_geN (pc := 16) X dX8_trace_16 (tgt := 28) (by decide) (by omega) (by omega) (fun c16 => ?_) (fun c16 => ?_)
    · refine r_iconst (pc := 28) (v := (-1)) X dX8_trace_28 (by decide) ?_
      refine r_iret (pc := 29) X dX8_trace_29 rfl rfl ?_
      refine ⟨QM.mk (σ1 := σ) ?_ Q FM.rf, rfl⟩
      unfold f_trace
      rw [if_neg (nI_pos (by omega)), if_pos (nI_le c16 (by omega))]
    · refine r_aload_n (pc := 19) X dX8_trace_19 rfl ?_
      refine r_getr (pc := 20) X dX8_trace_20 tf_8_220 rfl (kc_80 C) (rc_80_69 C) ?_
      refine r_iload_n (pc := 23) X dX8_trace_23 rfl ?_
      refine r_ialdW (pc := 24) X dX8_trace_24 (kc_118 C) rfl (show t < 20 by omega) (by omega) (bl.2 t (by omega)) ?_
      refine r_goto (pc := 25) X dX8_trace_25 (tgt := 29) (by decide) ?_
      refine r_iret (pc := 29) X dX8_trace_29 rfl rfl ?_
      refine ⟨QM.mk (σ1 := σ) ?_ Q FM.rf, rfl⟩
      unfold f_trace
      rw [if_neg (nI_pos (by omega)), if_neg (nI_ge (by omega) (by omega)), if_neg (nI_ge (by omega) (by omega)), ct]
set_option maxRecDepth 10000 in
set_option maxHeartbeats 4000000 in
theorem n_taken : ∀ (d : Nat) (p k : Int32) {σ : SG} {h : hp_T} {M : Mem} {B0 : Nat} (C : CS h) (Q : MRep σ M (h_l h)) (O : OK B0 σ), Ex (d + 9) nX8_taken [.ref 80, .int p, .int k] (wi h M) 0 0 (QM (f_taken σ p k) h M) := by
  intro d p k σ h M B0 C Q O
  refine Ex.of mm_X8_taken (Nat.le_of_ble_eq_true rfl) fun w κ X hk hnm => ?_
  refine r_aload_n (pc := 0) X dX8_taken_0 rfl ?_
  refine r_iload_n (pc := 1) X dX8_taken_1 rfl ?_
  refine r_iconst (pc := 2) (v := (nI 0)) X dX8_taken_2 (by decide) ?_
  refine r_bipush (pc := 3) (v := (nI 6)) X dX8_taken_3 (by decide) ?_
  refine r_c0_3P (pc := 5) X rfl dX8_taken_5 tc_8_236 mm_X8_in (kc_80 C) rfl rfl (m_in (d + 8) k (nI 0) (nI 6)) (Nat.le_of_ble_eq_true rfl) ?_
  refine r_if_neB (pc := 8) X dX8_taken_8 (tgt := 14) (by decide) (fun c8 => ?_) (fun c8 => ?_)
  · refine r_aload_n (pc := 14) X dX8_taken_14 rfl ?_
    refine r_iload_n (pc := 15) X dX8_taken_15 rfl ?_
    refine r_c0_1P (pc := 16) X rfl dX8_taken_16 tc_8_247 mm_X8_isPerson (kc_80 C) rfl rfl (m_isPerson (d + 7) p C Q.s O.w) (Nat.le_of_ble_eq_true rfl) ?_
    refine r_if_neB (pc := 19) X dX8_taken_19 (tgt := 25) (by decide) (fun c19 => ?_) (fun c19 => ?_)
    · obtain ⟨p, hp, hp6, rfl⟩ := has_nat O.w c19
      have cp := nI_clamp (show p < 2 ^ 31 by omega)
      obtain ⟨t, -, ht, rfl⟩ := inF_lo c8 (by omega) (by omega)
      obtain ⟨⟨kn, hkn, ekn⟩, -⟩ := O.w.2.2.2.2.2.2.1 p hp6
      have eu := und_n kn (by omega) t (by omega)
      refine r_aload_n (pc := 25) X dX8_taken_25 rfl ?_
      refine r_getr (pc := 26) X dX8_taken_26 tf_8_25 rfl (kc_80 C) (rc_80_5 C) ?_
      refine r_iload_n (pc := 29) X dX8_taken_29 rfl ?_
      refine r_ialdW (pc := 30) X dX8_taken_30 (kc_81 C) rfl hp6 (by omega) ((Q.s.a1 p).trans ekn) ?_
      refine r_istore_n (pc := 31) X dX8_taken_31 (Nat.le_of_ble_eq_true rfl) ?_
      refine r_iload_n (pc := 32) X dX8_taken_32 rfl ?_
      refine r_if_eq (pc := 33) X dX8_taken_33 (tgt := 72) (by decide) (fun c33 => ?_) (fun c33 => ?_)
      · refine r_iload_n (pc := 72) X dX8_taken_72 rfl ?_
        refine r_goto (pc := 73) X dX8_taken_73 (tgt := 78) (by decide) ?_
        refine r_iret (pc := 78) X dX8_taken_78 rfl rfl ?_
        have c33 : t = 0 := (nI_eq (by omega) (by omega)).mp c33
        have eb : undF 7 (nI kn) (nI t) = true := by
          rw [eu]
          simp
          omega
        refine ⟨QM.mk (σ1 := σ) ?_ Q FM.rf, rfl⟩
        simp (decide := true) [f_taken, c8, c19, cp, ekn, eb]
      · refine r_iload_n (pc := 36) X dX8_taken_36 rfl ?_
        refine r_iload_n (pc := 37) X dX8_taken_37 rfl ?_
        refine r_icmp_eqN (pc := 38) X dX8_taken_38 (tgt := 72) (by decide) (by omega) (by omega) (fun c38 => ?_) (fun c38 => ?_)
        · refine r_iload_n (pc := 72) X dX8_taken_72 rfl ?_
          refine r_goto (pc := 73) X dX8_taken_73 (tgt := 78) (by decide) ?_
          refine r_iret (pc := 78) X dX8_taken_78 rfl rfl ?_
          have c33 : ¬ t = 0 := fun z => c33 (by rw [z]; rfl)
          have eb : undF 7 (nI kn) (nI t) = true := by
            rw [eu]
            simp
            omega
          refine ⟨QM.mk (σ1 := σ) ?_ Q FM.rf, rfl⟩
          simp (decide := true) [f_taken, c8, c19, cp, ekn, eb]
        · refine r_iload_n (pc := 41) X dX8_taken_41 rfl ?_
          refine r_iconst (pc := 42) (v := (nI 1)) X dX8_taken_42 (by decide) ?_
          refine r_icmp_neN (pc := 43) X dX8_taken_43 (tgt := 51) (by decide) (by omega) (by omega) (fun c43 => ?_) (fun c43 => ?_)
          · refine r_iload_n (pc := 51) X dX8_taken_51 rfl ?_
            refine r_iconst (pc := 52) (v := (nI 2)) X dX8_taken_52 (by decide) ?_
            refine r_icmp_neN (pc := 53) X dX8_taken_53 (tgt := 61) (by decide) (by omega) (by omega) (fun c53 => ?_) (fun c53 => ?_)
            · refine r_iload_n (pc := 61) X dX8_taken_61 rfl ?_
              refine r_iconst (pc := 62) (v := (nI 3)) X dX8_taken_62 (by decide) ?_
              refine r_icmp_neN (pc := 63) X dX8_taken_63 (tgt := 76) (by decide) (by omega) (by omega) (fun c63 => ?_) (fun c63 => ?_)
              · refine r_bipush (pc := 76) (v := (-12)) X dX8_taken_76 (by decide) ?_
                refine r_iret (pc := 78) X dX8_taken_78 rfl rfl ?_
                have c33 : ¬ t = 0 := fun z => c33 (by rw [z]; rfl)
                have eb : undF 7 (nI kn) (nI t) = false := by
                  rw [eu]
                  simp
                  omega
                refine ⟨QM.mk (σ1 := σ) ?_ Q FM.rf, rfl⟩
                simp (decide := true) [f_taken, c8, c19, cp, ekn, eb]
              · refine r_iload_n (pc := 66) X dX8_taken_66 rfl ?_
                refine r_bipush (pc := 67) (v := (nI 6)) X dX8_taken_67 (by decide) ?_
                refine r_icmp_neN (pc := 69) X dX8_taken_69 (tgt := 76) (by decide) (by omega) (by omega) (fun c69 => ?_) (fun c69 => ?_)
                · refine r_bipush (pc := 76) (v := (-12)) X dX8_taken_76 (by decide) ?_
                  refine r_iret (pc := 78) X dX8_taken_78 rfl rfl ?_
                  have c33 : ¬ t = 0 := fun z => c33 (by rw [z]; rfl)
                  have eb : undF 7 (nI kn) (nI t) = false := by
                    rw [eu]
                    simp
                    omega
                  refine ⟨QM.mk (σ1 := σ) ?_ Q FM.rf, rfl⟩
                  simp (decide := true) [f_taken, c8, c19, cp, ekn, eb]
                · refine r_iload_n (pc := 72) X dX8_taken_72 rfl ?_
                  refine r_goto (pc := 73) X dX8_taken_73 (tgt := 78) (by decide) ?_
                  refine r_iret (pc := 78) X dX8_taken_78 rfl rfl ?_
                  have c33 : ¬ t = 0 := fun z => c33 (by rw [z]; rfl)
                  have eb : undF 7 (nI kn) (nI t) = true := by
                    rw [eu]
                    simp
                    omega
                  refine ⟨QM.mk (σ1 := σ) ?_ Q FM.rf, rfl⟩
                  simp (decide := true) [f_taken, c8, c19, cp, ekn, eb]
            · refine r_iload_n (pc := 56) X dX8_taken_56 rfl ?_
              refine r_iconst (pc := 57) (v := (nI 5)) X dX8_taken_57 (by decide) ?_
              refine r_icmp_eqN (pc := 58) X dX8_taken_58 (tgt := 72) (by decide) (by omega) (by omega) (fun c58 => ?_) (fun c58 => ?_)
              · refine r_iload_n (pc := 72) X dX8_taken_72 rfl ?_
                refine r_goto (pc := 73) X dX8_taken_73 (tgt := 78) (by decide) ?_
                refine r_iret (pc := 78) X dX8_taken_78 rfl rfl ?_
                have c33 : ¬ t = 0 := fun z => c33 (by rw [z]; rfl)
                have eb : undF 7 (nI kn) (nI t) = true := by
                  rw [eu]
                  simp
                  omega
                refine ⟨QM.mk (σ1 := σ) ?_ Q FM.rf, rfl⟩
                simp (decide := true) [f_taken, c8, c19, cp, ekn, eb]
              · refine r_iload_n (pc := 61) X dX8_taken_61 rfl ?_
                refine r_iconst (pc := 62) (v := (nI 3)) X dX8_taken_62 (by decide) ?_
                refine r_icmp_neN (pc := 63) X dX8_taken_63 (tgt := 76) (by decide) (by omega) (by omega) (fun c63 => ?_) (fun c63 => ?_)
                · refine r_bipush (pc := 76) (v := (-12)) X dX8_taken_76 (by decide) ?_
                  refine r_iret (pc := 78) X dX8_taken_78 rfl rfl ?_
                  have c33 : ¬ t = 0 := fun z => c33 (by rw [z]; rfl)
                  have eb : undF 7 (nI kn) (nI t) = false := by
                    rw [eu]
                    simp
                    omega
                  refine ⟨QM.mk (σ1 := σ) ?_ Q FM.rf, rfl⟩
                  simp (decide := true) [f_taken, c8, c19, cp, ekn, eb]
                · refine r_iload_n (pc := 66) X dX8_taken_66 rfl ?_
                  refine r_bipush (pc := 67) (v := (nI 6)) X dX8_taken_67 (by decide) ?_
                  refine r_icmp_neN (pc := 69) X dX8_taken_69 (tgt := 76) (by decide) (by omega) (by omega) (fun c69 => ?_) (fun c69 => ?_)
                  · refine r_bipush (pc := 76) (v := (-12)) X dX8_taken_76 (by decide) ?_
                    refine r_iret (pc := 78) X dX8_taken_78 rfl rfl ?_
                    have c33 : ¬ t = 0 := fun z => c33 (by rw [z]; rfl)
                    have eb : undF 7 (nI kn) (nI t) = false := by
                      rw [eu]
                      simp
                      omega
                    refine ⟨QM.mk (σ1 := σ) ?_ Q FM.rf, rfl⟩
                    simp (decide := true) [f_taken, c8, c19, cp, ekn, eb]
                  · refine r_iload_n (pc := 72) X dX8_taken_72 rfl ?_
                    refine r_goto (pc := 73) X dX8_taken_73 (tgt := 78) (by decide) ?_
                    refine r_iret (pc := 78) X dX8_taken_78 rfl rfl ?_
                    have c33 : ¬ t = 0 := fun z => c33 (by rw [z]; rfl)
                    have eb : undF 7 (nI kn) (nI t) = true := by
                      rw [eu]
                      simp
                      omega
                    refine ⟨QM.mk (σ1 := σ) ?_ Q FM.rf, rfl⟩
                    simp (decide := true) [f_taken, c8, c19, cp, ekn, eb]
          · refine r_iload_n (pc := 46) X dX8_taken_46 rfl ?_
            refine r_iconst (pc := 47) (v := (nI 4)) X dX8_taken_47 (by decide) ?_
            refine r_icmp_eqN (pc := 48) X dX8_taken_48 (tgt := 72) (by decide) (by omega) (by omega) (fun c48 => ?_) (fun c48 => ?_)
            · refine r_iload_n (pc := 72) X dX8_taken_72 rfl ?_
              refine r_goto (pc := 73) X dX8_taken_73 (tgt := 78) (by decide) ?_
              refine r_iret (pc := 78) X dX8_taken_78 rfl rfl ?_
              have c33 : ¬ t = 0 := fun z => c33 (by rw [z]; rfl)
              have eb : undF 7 (nI kn) (nI t) = true := by
                rw [eu]
                simp
                omega
              refine ⟨QM.mk (σ1 := σ) ?_ Q FM.rf, rfl⟩
              simp (decide := true) [f_taken, c8, c19, cp, ekn, eb]
            · refine r_iload_n (pc := 51) X dX8_taken_51 rfl ?_
              refine r_iconst (pc := 52) (v := (nI 2)) X dX8_taken_52 (by decide) ?_
              refine r_icmp_neN (pc := 53) X dX8_taken_53 (tgt := 61) (by decide) (by omega) (by omega) (fun c53 => ?_) (fun c53 => ?_)
              · refine r_iload_n (pc := 61) X dX8_taken_61 rfl ?_
                refine r_iconst (pc := 62) (v := (nI 3)) X dX8_taken_62 (by decide) ?_
                refine r_icmp_neN (pc := 63) X dX8_taken_63 (tgt := 76) (by decide) (by omega) (by omega) (fun c63 => ?_) (fun c63 => ?_)
                · refine r_bipush (pc := 76) (v := (-12)) X dX8_taken_76 (by decide) ?_
                  refine r_iret (pc := 78) X dX8_taken_78 rfl rfl ?_
                  have c33 : ¬ t = 0 := fun z => c33 (by rw [z]; rfl)
                  have eb : undF 7 (nI kn) (nI t) = false := by
                    rw [eu]
                    simp
                    omega
                  refine ⟨QM.mk (σ1 := σ) ?_ Q FM.rf, rfl⟩
                  simp (decide := true) [f_taken, c8, c19, cp, ekn, eb]
                · refine r_iload_n (pc := 66) X dX8_taken_66 rfl ?_
                  refine r_bipush (pc := 67) (v := (nI 6)) X dX8_taken_67 (by decide) ?_
                  refine r_icmp_neN (pc := 69) X dX8_taken_69 (tgt := 76) (by decide) (by omega) (by omega) (fun c69 => ?_) (fun c69 => ?_)
                  · refine r_bipush (pc := 76) (v := (-12)) X dX8_taken_76 (by decide) ?_
                    refine r_iret (pc := 78) X dX8_taken_78 rfl rfl ?_
                    have c33 : ¬ t = 0 := fun z => c33 (by rw [z]; rfl)
                    have eb : undF 7 (nI kn) (nI t) = false := by
                      rw [eu]
                      simp
                      omega
                    refine ⟨QM.mk (σ1 := σ) ?_ Q FM.rf, rfl⟩
                    simp (decide := true) [f_taken, c8, c19, cp, ekn, eb]
                  · refine r_iload_n (pc := 72) X dX8_taken_72 rfl ?_
                    refine r_goto (pc := 73) X dX8_taken_73 (tgt := 78) (by decide) ?_
                    refine r_iret (pc := 78) X dX8_taken_78 rfl rfl ?_
                    have c33 : ¬ t = 0 := fun z => c33 (by rw [z]; rfl)
                    have eb : undF 7 (nI kn) (nI t) = true := by
                      rw [eu]
                      simp
                      omega
                    refine ⟨QM.mk (σ1 := σ) ?_ Q FM.rf, rfl⟩
                    simp (decide := true) [f_taken, c8, c19, cp, ekn, eb]
              · refine r_iload_n (pc := 56) X dX8_taken_56 rfl ?_
                refine r_iconst (pc := 57) (v := (nI 5)) X dX8_taken_57 (by decide) ?_
                refine r_icmp_eqN (pc := 58) X dX8_taken_58 (tgt := 72) (by decide) (by omega) (by omega) (fun c58 => ?_) (fun c58 => ?_)
                · refine r_iload_n (pc := 72) X dX8_taken_72 rfl ?_
                  refine r_goto (pc := 73) X dX8_taken_73 (tgt := 78) (by decide) ?_
                  refine r_iret (pc := 78) X dX8_taken_78 rfl rfl ?_
                  have c33 : ¬ t = 0 := fun z => c33 (by rw [z]; rfl)
                  have eb : undF 7 (nI kn) (nI t) = true := by
                    rw [eu]
                    simp
                    omega
                  refine ⟨QM.mk (σ1 := σ) ?_ Q FM.rf, rfl⟩
                  simp (decide := true) [f_taken, c8, c19, cp, ekn, eb]
                · refine r_iload_n (pc := 61) X dX8_taken_61 rfl ?_
                  refine r_iconst (pc := 62) (v := (nI 3)) X dX8_taken_62 (by decide) ?_
                  refine r_icmp_neN (pc := 63) X dX8_taken_63 (tgt := 76) (by decide) (by omega) (by omega) (fun c63 => ?_) (fun c63 => ?_)
                  · refine r_bipush (pc := 76) (v := (-12)) X dX8_taken_76 (by decide) ?_
                    refine r_iret (pc := 78) X dX8_taken_78 rfl rfl ?_
                    have c33 : ¬ t = 0 := fun z => c33 (by rw [z]; rfl)
                    have eb : undF 7 (nI kn) (nI t) = false := by
                      rw [eu]
                      simp
                      omega
                    refine ⟨QM.mk (σ1 := σ) ?_ Q FM.rf, rfl⟩
                    simp (decide := true) [f_taken, c8, c19, cp, ekn, eb]
                  · refine r_iload_n (pc := 66) X dX8_taken_66 rfl ?_
                    refine r_bipush (pc := 67) (v := (nI 6)) X dX8_taken_67 (by decide) ?_
                    refine r_icmp_neN (pc := 69) X dX8_taken_69 (tgt := 76) (by decide) (by omega) (by omega) (fun c69 => ?_) (fun c69 => ?_)
                    · refine r_bipush (pc := 76) (v := (-12)) X dX8_taken_76 (by decide) ?_
                      refine r_iret (pc := 78) X dX8_taken_78 rfl rfl ?_
                      have c33 : ¬ t = 0 := fun z => c33 (by rw [z]; rfl)
                      have eb : undF 7 (nI kn) (nI t) = false := by
                        rw [eu]
                        simp
                        omega
                      refine ⟨QM.mk (σ1 := σ) ?_ Q FM.rf, rfl⟩
                      simp (decide := true) [f_taken, c8, c19, cp, ekn, eb]
                    · refine r_iload_n (pc := 72) X dX8_taken_72 rfl ?_
                      refine r_goto (pc := 73) X dX8_taken_73 (tgt := 78) (by decide) ?_
                      refine r_iret (pc := 78) X dX8_taken_78 rfl rfl ?_
                      have c33 : ¬ t = 0 := fun z => c33 (by rw [z]; rfl)
                      have eb : undF 7 (nI kn) (nI t) = true := by
                        rw [eu]
                        simp
                        omega
                      refine ⟨QM.mk (σ1 := σ) ?_ Q FM.rf, rfl⟩
                      simp (decide := true) [f_taken, c8, c19, cp, ekn, eb]
    · refine r_bipush (pc := 22) (v := (-11)) X dX8_taken_22 (by decide) ?_
      refine r_iret (pc := 24) X dX8_taken_24 rfl rfl ?_
      refine ⟨QM.mk (σ1 := σ) ?_ Q FM.rf, rfl⟩
      simp (decide := true) [f_taken, c8, c19]
  · refine r_bipush (pc := 11) (v := (-2)) X dX8_taken_11 (by decide) ?_
    refine r_iret (pc := 13) X dX8_taken_13 rfl rfl ?_
    refine ⟨QM.mk (σ1 := σ) ?_ Q FM.rf, rfl⟩
    simp (decide := true) [f_taken, c8]
set_option maxRecDepth 10000 in
set_option maxHeartbeats 4000000 in
theorem n_count : ∀ (d : Nat) (x : Int32) {σ : SG} {h : hp_T} {M : Mem} {B0 : Nat} (C : CS h) (Q : MRep σ M (h_l h)) (O : OK B0 σ), Ex (d + 9) nX8_count [.ref 80, .int x] (wi h M) 0 0 (QM (f_count σ x) h M) := by
  intro d x σ h M B0 C Q O
  refine Ex.of mm_X8_count (Nat.le_of_ble_eq_true rfl) fun w κ X hk hnm => ?_
  refine r_iload_n (pc := 0) X dX8_count_0 rfl ?_
  refine sw_X8_count_1 X (fun z1 => ?_) (fun z1 => ?_) (fun z1 => ?_) (fun z1 => ?_) (fun z1 => ?_) (fun z1 => ?_) (fun z1 => ?_) (fun z1 => ?_)
  · refine r_aload_n (pc := 44) X dX8_count_44 rfl ?_
    refine r_getiW (pc := 45) X dX8_count_45 tf_8_7 rfl (kc_80 C) Q.s.1 ?_
    refine r_iret (pc := 48) X dX8_count_48 rfl rfl ?_
    refine ⟨QM.mk (σ1 := σ) ?_ Q FM.rf, rfl⟩
    simp (decide := true) [f_count, z1]
  · refine r_aload_n (pc := 49) X dX8_count_49 rfl ?_
    refine r_getiW (pc := 50) X dX8_count_50 tf_8_44 rfl (kc_80 C) Q.es.1 ?_
    refine r_iret (pc := 53) X dX8_count_53 rfl rfl ?_
    refine ⟨QM.mk (σ1 := σ) ?_ Q FM.rf, rfl⟩
    simp (decide := true) [f_count, z1]
  · refine r_aload_n (pc := 54) X dX8_count_54 rfl ?_
    refine r_getiW (pc := 55) X dX8_count_55 tf_8_123 rfl (kc_80 C) Q.se.1 ?_
    refine r_iret (pc := 58) X dX8_count_58 rfl rfl ?_
    refine ⟨QM.mk (σ1 := σ) ?_ Q FM.rf, rfl⟩
    simp (decide := true) [f_count, z1]
  · refine r_aload_n (pc := 59) X dX8_count_59 rfl ?_
    refine r_getiW (pc := 60) X dX8_count_60 tf_8_132 rfl (kc_80 C) Q.ga.1 ?_
    refine r_iret (pc := 63) X dX8_count_63 rfl rfl ?_
    refine ⟨QM.mk (σ1 := σ) ?_ Q FM.rf, rfl⟩
    simp (decide := true) [f_count, z1]
  · refine r_aload_n (pc := 64) X dX8_count_64 rfl ?_
    refine r_getiW (pc := 65) X dX8_count_65 tf_8_135 rfl (kc_80 C) Q.bo.1 ?_
    refine r_iret (pc := 68) X dX8_count_68 rfl rfl ?_
    refine ⟨QM.mk (σ1 := σ) ?_ Q FM.rf, rfl⟩
    simp (decide := true) [f_count, z1]
  · refine r_aload_n (pc := 69) X dX8_count_69 rfl ?_
    refine r_getiW (pc := 70) X dX8_count_70 tf_8_50 rfl (kc_80 C) Q.tx.1.1 ?_
    refine r_iret (pc := 73) X dX8_count_73 rfl rfl ?_
    refine ⟨QM.mk (σ1 := σ) ?_ Q FM.rf, rfl⟩
    simp (decide := true) [f_count, z1]
  · refine r_aload_n (pc := 74) X dX8_count_74 rfl ?_
    refine r_getiW (pc := 75) X dX8_count_75 tf_8_217 rfl (kc_80 C) Q.bl.1 ?_
    refine r_iret (pc := 78) X dX8_count_78 rfl rfl ?_
    refine ⟨QM.mk (σ1 := σ) ?_ Q FM.rf, rfl⟩
    simp (decide := true) [f_count, z1]
  · refine r_bipush (pc := 79) (v := (-2)) X dX8_count_79 (by decide) ?_
    refine r_iret (pc := 81) X dX8_count_81 rfl rfl ?_
    refine ⟨QM.mk (σ1 := σ) ?_ Q FM.rf, rfl⟩
    simp (decide := true) [f_count, z1]
