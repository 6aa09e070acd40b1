/-! the reference's image is taken, and comes back -/
theorem psb_i : (∀ q, q ∈ ps_image0 → 106 ≤ q.1 ∧ q.1 ≤ 117) ∧ (∀ q, q ∈ ps_image1 → 106 ≤ q.1 ∧ q.1 ≤ 117) ∧ (∀ q, q ∈ ps_image2 → 106 ≤ q.1 ∧ q.1 ≤ 117) ∧ (∀ q, q ∈ ps_image3 → 106 ≤ q.1 ∧ q.1 ≤ 117) := by decide
theorem psb_u : (∀ q, q ∈ ps_undo0 → 81 ≤ q.1 ∧ q.1 ≤ 105) ∧ (∀ q, q ∈ ps_undo1 → 81 ≤ q.1 ∧ q.1 ≤ 105) ∧ (∀ q, q ∈ ps_undo2 → 81 ≤ q.1 ∧ q.1 ≤ 105) ∧ (∀ q, q ∈ ps_undo3 → 81 ≤ q.1 ∧ q.1 ≤ 105) := by decide
theorem psn_u : (∀ q, q ∈ ps_undo0 → q.1 ≤ 86 ∨ 100 ≤ q.1) ∧ (∀ q, q ∈ ps_undo1 → q.1 ≤ 86 ∨ 100 ≤ q.1) ∧ (∀ q, q ∈ ps_undo2 → q.1 ≤ 86 ∨ 100 ≤ q.1) ∧ (∀ q, q ∈ ps_undo3 → q.1 ≤ 86 ∨ 100 ≤ q.1) := by decide
/-- four rows of copies, one behind another -/
def C4 (a b c e : CPS) (MA M4 : Mem) : Prop := ∃ M1 M2 M3, CpK a 6 MA M1 ∧ CpK b 24 M1 M2 ∧ CpK c 10 M2 M3 ∧ CpK e 8 M3 M4
theorem C4.out {a b c e : CPS} {MA M4 : Mem} (z : C4 a b c e MA M4) {q : Nat} (h1 : ∀ p, p ∈ a → q ≠ p.1) (h2 : ∀ p, p ∈ b → q ≠ p.1) (h3 : ∀ p, p ∈ c → q ≠ p.1) (h4 : ∀ p, p ∈ e → q ≠ p.1) : M4 q = MA q := by
  obtain ⟨M1, M2, M3, c1, c2, c3, c4⟩ := z
  exact (((c4.2 q h4).trans (c3.2 q h3)).trans (c2.2 q h2)).trans (c1.2 q h1)
theorem C4.i1 {a b c e : CPS} {MA M4 : Mem} (z : C4 a b c e MA M4) {q s : Nat} (h1 : (q, s) ∈ a) (h2 : ∀ p, p ∈ b → q ≠ p.1) (h3 : ∀ p, p ∈ c → q ≠ p.1) (h4 : ∀ p, p ∈ e → q ≠ p.1) : M4 q = fun i => if i < 6 then MA s i else MA q i := by
  obtain ⟨M1, M2, M3, c1, c2, c3, c4⟩ := z
  exact (((c4.2 q h4).trans (c3.2 q h3)).trans (c2.2 q h2)).trans (c1.1 (q, s) h1)
theorem C4.i2 {a b c e : CPS} {MA M4 : Mem} (z : C4 a b c e MA M4) {q s : Nat} (h2 : (q, s) ∈ b) (h1 : ∀ p, p ∈ a → q ≠ p.1 ∧ s ≠ p.1) (h3 : ∀ p, p ∈ c → q ≠ p.1) (h4 : ∀ p, p ∈ e → q ≠ p.1) : M4 q = fun i => if i < 24 then MA s i else MA q i := by
  obtain ⟨M1, M2, M3, c1, c2, c3, c4⟩ := z
  refine ((c4.2 q h4).trans (c3.2 q h3)).trans ((c2.1 (q, s) h2).trans ?_)
  show (fun i => if i < 24 then M1 s i else M1 q i) = _
  rw [c1.2 q (fun p hp => (h1 p hp).1), c1.2 s (fun p hp => (h1 p hp).2)]
theorem C4.i3 {a b c e : CPS} {MA M4 : Mem} (z : C4 a b c e MA M4) {q s : Nat} (h3 : (q, s) ∈ c) (h1 : ∀ p, p ∈ a → q ≠ p.1 ∧ s ≠ p.1) (h2 : ∀ p, p ∈ b → q ≠ p.1 ∧ s ≠ p.1) (h4 : ∀ p, p ∈ e → q ≠ p.1) : M4 q = fun i => if i < 10 then MA s i else MA q i := by
  obtain ⟨M1, M2, M3, c1, c2, c3, c4⟩ := z
  refine (c4.2 q h4).trans ((c3.1 (q, s) h3).trans ?_)
  show (fun i => if i < 10 then M2 s i else M2 q i) = _
  rw [c2.2 q (fun p hp => (h2 p hp).1), c2.2 s (fun p hp => (h2 p hp).2), c1.2 q (fun p hp => (h1 p hp).1), c1.2 s (fun p hp => (h1 p hp).2)]
theorem C4.i4 {a b c e : CPS} {MA M4 : Mem} (z : C4 a b c e MA M4) {q s : Nat} (h4 : (q, s) ∈ e) (h1 : ∀ p, p ∈ a → q ≠ p.1 ∧ s ≠ p.1) (h2 : ∀ p, p ∈ b → q ≠ p.1 ∧ s ≠ p.1) (h3 : ∀ p, p ∈ c → q ≠ p.1 ∧ s ≠ p.1) : M4 q = fun i => if i < 8 then MA s i else MA q i := by
  obtain ⟨M1, M2, M3, c1, c2, c3, c4⟩ := z
  refine (c4.1 (q, s) h4).trans ?_
  show (fun i => if i < 8 then M3 s i else M3 q i) = _
  rw [c3.2 q (fun p hp => (h3 p hp).1), c3.2 s (fun p hp => (h3 p hp).2), c2.2 q (fun p hp => (h2 p hp).1), c2.2 s (fun p hp => (h2 p hp).2), c1.2 q (fun p hp => (h1 p hp).1), c1.2 s (fun p hp => (h1 p hp).2)]
theorem if_ext {N : Nat} {f g V : Nat → Int32} (h1 : ∀ i, i < N → f i = V i) (h2 : ∀ i, N ≤ i → g i = V i) : (fun i => if i < N then f i else g i) = V := by
  funext i
  by_cases c : i < N
  · rw [if_pos c]; exact h1 i c
  · rw [if_neg c]; exact h2 i (by omega)
theorem PvM.cp {M M4 : Mem} {c1 a1 b1 c2 a2 b2 N : Nat} {l : PL} {g1 g2 : Nat → Int32} (p : PvM M c1 a1 b1 l) (hl : l.length ≤ N) (h0 : M4 80 c2 = nI l.length) (ha : M4 a2 = fun i => if i < N then M a1 i else g1 i) (hb : M4 b2 = fun i => if i < N then M b1 i else g2 i) : PvM M4 c2 a2 b2 l := by
  refine ⟨h0, fun i hi => ?_⟩
  rw [ha, hb]
  show (if i < N then M a1 i else g1 i) = _ ∧ (if i < N then M b1 i else g2 i) = _
  rw [if_pos (by omega), if_pos (by omega)]
  exact p.2 i hi
theorem im_rep {σ : SG} {M MA M4 : Mem} {L : LMem} {B0 : Nat} (Q : MRep σ M L) (O : OK B0 σ) (z : C4 ps_image0 ps_image1 ps_image2 ps_image3 MA M4) (hb : ∀ b, b ≠ 80 → MA b = M b) (hs : ∀ j, (j < 46 ∨ 55 < j) → MA 80 j = M 80 j)
    (h46 : MA 80 46 = nI 1) (h47 : MA 80 47 = enI (sE σ)) (h48 : MA 80 48 = sV σ 0 6 ∧ MA 80 49 = sV σ 0 9 ∧ MA 80 50 = bkF (sV σ) ∧ MA 80 51 = sV σ 0 8 ∧ MA 80 52 = enF (sV σ)) (h53 : MA 80 53 = nI (sSe σ).length) (h54 : MA 80 54 = nI (sGa σ).length) (h55 : MA 80 55 = nI (sBo σ).length) : MRep (σ.1, some σ.1, σ.2.2) M4 L ∧ ∀ b, (b < 80 ∨ 122 < b) → M4 b = M b := by
  have e80 : M4 80 = MA 80 := z.out (by decide) (by decide) (by decide) (by decide)
  have ko : ∀ b, b ≠ 80 → (b < 106 ∨ 117 < b) → M4 b = M b := fun b h1 h2 => (z.out (fun p hp => by have := psb_i.1 p hp; omega) (fun p hp => by have := psb_i.2.1 p hp; omega) (fun p hp => by have := psb_i.2.2.1 p hp; omega) (fun p hp => by have := psb_i.2.2.2 p hp; omega)).trans (hb b h1)
  have k0 : ∀ j, (j < 46 ∨ 55 < j) → M4 80 j = M 80 j := fun j hj => by rw [e80]; exact hs j hj
  have z1 := O.z.2.1
  have z6 := O.z.2.2
  have c106 := z.i1 (q := 106) (s := 81) (by decide) (by decide) (by decide) (by decide)
  have c107 := z.i1 (q := 107) (s := 82) (by decide) (by decide) (by decide) (by decide)
  have c108 := z.i1 (q := 108) (s := 83) (by decide) (by decide) (by decide) (by decide)
  have c109 := z.i1 (q := 109) (s := 84) (by decide) (by decide) (by decide) (by decide)
  have c110 := z.i1 (q := 110) (s := 85) (by decide) (by decide) (by decide) (by decide)
  have c111 := z.i2 (q := 111) (s := 86) (by decide) (by decide) (by decide) (by decide)
  have c112 := z.i1 (q := 112) (s := 100) (by decide) (by decide) (by decide) (by decide)
  have c113 := z.i1 (q := 113) (s := 101) (by decide) (by decide) (by decide) (by decide)
  have c114 := z.i3 (q := 114) (s := 102) (by decide) (by decide) (by decide) (by decide)
  have c115 := z.i3 (q := 115) (s := 103) (by decide) (by decide) (by decide) (by decide)
  have c116 := z.i4 (q := 116) (s := 104) (by decide) (by decide) (by decide) (by decide)
  have c117 := z.i4 (q := 117) (s := 105) (by decide) (by decide) (by decide) (by decide)
  rw [hb 81 (by omega), hb 106 (by omega)] at c106
  rw [hb 82 (by omega), hb 107 (by omega)] at c107
  rw [hb 83 (by omega), hb 108 (by omega)] at c108
  rw [hb 84 (by omega), hb 109 (by omega)] at c109
  rw [hb 85 (by omega), hb 110 (by omega)] at c110
  rw [hb 86 (by omega), hb 111 (by omega)] at c111
  rw [hb 100 (by omega), hb 112 (by omega)] at c112
  rw [hb 101 (by omega), hb 113 (by omega)] at c113
  rw [hb 102 (by omega), hb 114 (by omega)] at c114
  rw [hb 103 (by omega), hb 115 (by omega)] at c115
  rw [hb 104 (by omega), hb 116 (by omega)] at c116
  rw [hb 105 (by omega), hb 117 (by omega)] at c117
  have hy := Q.2.2.2.1.2
  have fl : ∀ f, 1 ≤ f → f ≤ 6 → M4 (105 + f) = sV σ f := by
    intro f h1 h2
    rcases (show f = 1 ∨ f = 2 ∨ f = 3 ∨ f = 4 ∨ f = 5 ∨ f = 6 by omega) with rfl | rfl | rfl | rfl | rfl | rfl
    · exact c106.trans (if_ext (fun i _ => Q.s.a1 i) (fun i hi => (hy.1 1 i (by omega) (by omega) hi).trans (z1 1 i (by omega) (by omega) hi).symm))
    · exact c107.trans (if_ext (fun i _ => Q.s.a2 i) (fun i hi => (hy.1 2 i (by omega) (by omega) hi).trans (z1 2 i (by omega) (by omega) hi).symm))
    · exact c108.trans (if_ext (fun i _ => Q.s.a3 i) (fun i hi => (hy.1 3 i (by omega) (by omega) hi).trans (z1 3 i (by omega) (by omega) hi).symm))
    · exact c109.trans (if_ext (fun i _ => Q.s.a4 i) (fun i hi => (hy.1 4 i (by omega) (by omega) hi).trans (z1 4 i (by omega) (by omega) hi).symm))
    · exact c110.trans (if_ext (fun i _ => Q.s.a5 i) (fun i hi => (hy.1 5 i (by omega) (by omega) hi).trans (z1 5 i (by omega) (by omega) hi).symm))
    · exact c111.trans (if_ext (fun i _ => Q.s.a6 i) (fun i hi => (hy.2 i hi).trans (z6 i hi).symm))
  refine ⟨⟨⟨Q.s.kept (fun j hj => k0 j (by omega)) (fun b h1 h2 => ko b (by omega) (by omega)), (k0 29 (by omega)).trans Q.1.2⟩, Q.2.1.kept (fun j hj => k0 j (by omega)) (fun b h1 h2 => ko b (by omega) (by omega)), Q.2.2.1.kept (k0 11 (by omega)) (fun b h1 h2 => ko b (by omega) (by omega)), ⟨⟨fun e => (by cases e), fun s e => ?_⟩, fun f i h1 h2 h3 => ?_, fun i hi => ?_⟩,
    Q.2.2.2.2.1.kept (k0 13 (by omega)) (ko 87 (by omega) (by omega)) (ko 95 (by omega) (by omega)), Q.2.2.2.2.2.1.kept (k0 68 (by omega)) (ko 118 (by omega) (by omega)), (Tm.kept (ko 119 (by omega) (by omega)) (ko 120 (by omega) (by omega))).trans Q.2.2.2.2.2.2⟩, fun b h1 => ko b (by omega) (by omega)⟩
  · cases e
    refine ⟨by rw [e80]; exact h46, by rw [e80]; exact h47, by rw [e80]; exact h48, fl, Q.se.cp O.sn.1 (by rw [e80]; exact h53) c112 c113, Q.ga.cp O.gm.1 (by rw [e80]; exact h54) c114 c115, Q.bo.cp O.bk.1 (by rw [e80]; exact h55) c116 c117⟩
  · rw [fl f h1 (by omega)]
    exact z1 f i h1 h2 h3
  · exact (congrFun (fl 6 (by omega) (by omega)) i).trans (z6 i hi)
theorem un_rep {σ : SG} {M MA M4 : Mem} {L : LMem} {B0 : Nat} {s : SCN} (Q : MRep σ M L) (O : OK B0 σ) (e : sIm σ = some s) (z : C4 ps_undo0 ps_undo1 ps_undo2 ps_undo3 MA M4) (hb : ∀ b, b ≠ 80 → MA b = M b) (hs : ∀ j, 4 < j → j ≠ 12 → j ≠ 37 → j ≠ 40 → j ≠ 41 → MA 80 j = M 80 j)
    (h12 : MA 80 12 = enI s.2.1) (h48 : MA 80 0 = s.1 0 6 ∧ MA 80 1 = s.1 0 9 ∧ MA 80 2 = bkF s.1 ∧ MA 80 3 = s.1 0 8 ∧ MA 80 4 = enF s.1) (h53 : MA 80 37 = nI s.2.2.1.length) (h54 : MA 80 40 = nI s.2.2.2.1.length) (h55 : MA 80 41 = nI s.2.2.2.2.length) : MRep (s, σ.2) M4 L ∧ ∀ b, (b < 80 ∨ 122 < b) → M4 b = M b := by
  have e80 : M4 80 = MA 80 := z.out (by decide) (by decide) (by decide) (by decide)
  have ko : ∀ b, b ≠ 80 → (b < 81 ∨ (86 < b ∧ b < 100) ∨ 105 < b) → M4 b = M b := fun b h1 h2 => (z.out (fun p hp => by have := psb_u.1 p hp; have := psn_u.1 p hp; omega) (fun p hp => by have := psb_u.2.1 p hp; have := psn_u.2.1 p hp; omega) (fun p hp => by have := psb_u.2.2.1 p hp; have := psn_u.2.2.1 p hp; omega) (fun p hp => by have := psb_u.2.2.2 p hp; have := psn_u.2.2.2 p hp; omega)).trans (hb b h1)
  have k0 : ∀ j, 4 < j → j ≠ 12 → j ≠ 37 → j ≠ 40 → j ≠ 41 → M4 80 j = M 80 j := fun j a1 a2 a3 a4 a5 => by rw [e80]; exact hs j a1 a2 a3 a4 a5
  have z1 := O.z.2.1
  have z6 := O.z.2.2
  have O2 := O.2.1 s e
  have y1 := O2.1.2.1.2.1
  have y6 := O2.1.2.1.2.2
  obtain ⟨i0, i1, i2, i3, i4, i5⟩ := (Q.2.2.2.1.1.2 s e).2
  have c81 := z.i1 (q := 81) (s := 106) (by decide) (by decide) (by decide) (by decide)
  have c82 := z.i1 (q := 82) (s := 107) (by decide) (by decide) (by decide) (by decide)
  have c83 := z.i1 (q := 83) (s := 108) (by decide) (by decide) (by decide) (by decide)
  have c84 := z.i1 (q := 84) (s := 109) (by decide) (by decide) (by decide) (by decide)
  have c85 := z.i1 (q := 85) (s := 110) (by decide) (by decide) (by decide) (by decide)
  have c86 := z.i2 (q := 86) (s := 111) (by decide) (by decide) (by decide) (by decide)
  have c100 := z.i1 (q := 100) (s := 112) (by decide) (by decide) (by decide) (by decide)
  have c101 := z.i1 (q := 101) (s := 113) (by decide) (by decide) (by decide) (by decide)
  have c102 := z.i3 (q := 102) (s := 114) (by decide) (by decide) (by decide) (by decide)
  have c103 := z.i3 (q := 103) (s := 115) (by decide) (by decide) (by decide) (by decide)
  have c104 := z.i4 (q := 104) (s := 116) (by decide) (by decide) (by decide) (by decide)
  have c105 := z.i4 (q := 105) (s := 117) (by decide) (by decide) (by decide) (by decide)
  rw [hb 81 (by omega), hb 106 (by omega)] at c81
  rw [hb 82 (by omega), hb 107 (by omega)] at c82
  rw [hb 83 (by omega), hb 108 (by omega)] at c83
  rw [hb 84 (by omega), hb 109 (by omega)] at c84
  rw [hb 85 (by omega), hb 110 (by omega)] at c85
  rw [hb 86 (by omega), hb 111 (by omega)] at c86
  rw [hb 100 (by omega), hb 112 (by omega)] at c100
  rw [hb 101 (by omega), hb 113 (by omega)] at c101
  rw [hb 102 (by omega), hb 114 (by omega)] at c102
  rw [hb 103 (by omega), hb 115 (by omega)] at c103
  rw [hb 104 (by omega), hb 116 (by omega)] at c104
  rw [hb 105 (by omega), hb 117 (by omega)] at c105
  have fl : ∀ f, 1 ≤ f → f ≤ 6 → M4 (80 + f) = s.1 f := by
    intro f h1 h2
    rcases (show f = 1 ∨ f = 2 ∨ f = 3 ∨ f = 4 ∨ f = 5 ∨ f = 6 by omega) with rfl | rfl | rfl | rfl | rfl | rfl
    · exact c81.trans (if_ext (fun i _ => congrFun (i2 1 (by omega) (by omega)) i) (fun i hi => (Q.s.a1 i).trans ((z1 1 i (by omega) (by omega) hi).trans (y1 1 i (by omega) (by omega) hi).symm)))
    · exact c82.trans (if_ext (fun i _ => congrFun (i2 2 (by omega) (by omega)) i) (fun i hi => (Q.s.a2 i).trans ((z1 2 i (by omega) (by omega) hi).trans (y1 2 i (by omega) (by omega) hi).symm)))
    · exact c83.trans (if_ext (fun i _ => congrFun (i2 3 (by omega) (by omega)) i) (fun i hi => (Q.s.a3 i).trans ((z1 3 i (by omega) (by omega) hi).trans (y1 3 i (by omega) (by omega) hi).symm)))
    · exact c84.trans (if_ext (fun i _ => congrFun (i2 4 (by omega) (by omega)) i) (fun i hi => (Q.s.a4 i).trans ((z1 4 i (by omega) (by omega) hi).trans (y1 4 i (by omega) (by omega) hi).symm)))
    · exact c85.trans (if_ext (fun i _ => congrFun (i2 5 (by omega) (by omega)) i) (fun i hi => (Q.s.a5 i).trans ((z1 5 i (by omega) (by omega) hi).trans (y1 5 i (by omega) (by omega) hi).symm)))
    · exact c86.trans (if_ext (fun i _ => congrFun (i2 6 (by omega) (by omega)) i) (fun i hi => (Q.s.a6 i).trans ((z6 i hi).trans (y6 i hi).symm)))
  exact ⟨⟨⟨⟨by rw [e80]; exact h48.1, by rw [e80]; exact h48.2.1, by rw [e80]; exact h48.2.2.1, by rw [e80]; exact h48.2.2.2.1, by rw [e80]; exact h48.2.2.2.2, fl⟩, (k0 29 (by omega) (by omega) (by omega) (by omega) (by omega)).trans Q.1.2⟩,
    ⟨by rw [e80]; exact h12, i3.cp O2.2.2.1.1 (by rw [e80]; exact h53) c100 c101, i4.cp O2.2.2.2.1.1 (by rw [e80]; exact h54) c102 c103, i5.cp O2.2.2.2.2.1 (by rw [e80]; exact h55) c104 c105⟩, Q.2.2.1.kept (k0 11 (by omega) (by omega) (by omega) (by omega) (by omega)) (fun b h1 h2 => ko b (by omega) (by omega)), Q.2.2.2.1.kept (fun j h1 h2 => k0 j (by omega) (by omega) (by omega) (by omega) (by omega)) (fun b h1 h2 => ko b (by omega) (by omega)),
    Q.2.2.2.2.1.kept (k0 13 (by omega) (by omega) (by omega) (by omega) (by omega)) (ko 87 (by omega) (by omega)) (ko 95 (by omega) (by omega)), Q.2.2.2.2.2.1.kept (k0 68 (by omega) (by omega) (by omega) (by omega) (by omega)) (ko 118 (by omega) (by omega)), (Tm.kept (ko 119 (by omega) (by omega)) (ko 120 (by omega) (by omega))).trans Q.2.2.2.2.2.2⟩, fun b h1 => ko b (by omega) (by omega)⟩
set_option maxRecDepth 10000 in
set_option maxHeartbeats 4000000 in
theorem n_image : ∀ (d : Nat) {σ : SG} {h : hp_T} {M : Mem} {B0 : Nat} (C : CS h) (Q : MRep σ M (h_l h)) (O : OK B0 σ), Ex (d + 9) nX8_image [.ref 80] (wi h M) 0 0 (QM (f_image σ) h M) := by
  intro d σ h M B0 C Q O
  refine Ex.of mm_X8_image (Nat.le_of_ble_eq_true rfl) fun w κ X hk hnm => ?_
  refine r_aload_n (pc := 0) X dX8_image_0 rfl ?_
  refine r_iconst (pc := 1) (v := (nI 1)) X dX8_image_1 (by decide) ?_
  refine r_putiW (pc := 2) X dX8_image_2 tf_8_150 rfl (Or.inl rfl) (kc_80 C) ⟨rfl, rfl⟩ ?_
  refine r_aload_n (pc := 5) X dX8_image_5 rfl ?_
  refine r_aload_n (pc := 6) X dX8_image_6 rfl ?_
  refine r_getiW (pc := 7) X dX8_image_7 tf_8_47 rfl (kc_80 C) (show M 80 12 = enI (sE σ) from Q.2.1.1) ?_
  refine r_putiW (pc := 10) X dX8_image_10 tf_8_154 rfl (Or.inl rfl) (kc_80 C) ⟨rfl, rfl⟩ ?_
  refine r_aload_n (pc := 13) X dX8_image_13 rfl ?_
  refine r_aload_n (pc := 14) X dX8_image_14 rfl ?_
  refine r_getiW (pc := 15) X dX8_image_15 tf_8_7 rfl (kc_80 C) (show M 80 0 = sV σ 0 6 from Q.s.1) ?_
  refine r_putiW (pc := 18) X dX8_image_18 tf_8_157 rfl (Or.inl rfl) (kc_80 C) ⟨rfl, rfl⟩ ?_
  refine r_aload_n (pc := 21) X dX8_image_21 rfl ?_
  refine r_aload_n (pc := 22) X dX8_image_22 rfl ?_
  refine r_getiW (pc := 23) X dX8_image_23 tf_8_13 rfl (kc_80 C) (show M 80 1 = sV σ 0 9 from Q.s.2.1) ?_
  refine r_putiW (pc := 26) X dX8_image_26 tf_8_160 rfl (Or.inl rfl) (kc_80 C) ⟨rfl, rfl⟩ ?_
  refine r_aload_n (pc := 29) X dX8_image_29 rfl ?_
  refine r_aload_n (pc := 30) X dX8_image_30 rfl ?_
  refine r_getiW (pc := 31) X dX8_image_31 tf_8_16 rfl (kc_80 C) (show M 80 2 = bkF (sV σ) from Q.s.2.2.1) ?_
  refine r_putiW (pc := 34) X dX8_image_34 tf_8_163 rfl (Or.inl rfl) (kc_80 C) ⟨rfl, rfl⟩ ?_
  refine r_aload_n (pc := 37) X dX8_image_37 rfl ?_
  refine r_aload_n (pc := 38) X dX8_image_38 rfl ?_
  refine r_getiW (pc := 39) X dX8_image_39 tf_8_19 rfl (kc_80 C) (show M 80 3 = sV σ 0 8 from Q.s.2.2.2.1) ?_
  refine r_putiW (pc := 42) X dX8_image_42 tf_8_166 rfl (Or.inl rfl) (kc_80 C) ⟨rfl, rfl⟩ ?_
  refine r_aload_n (pc := 45) X dX8_image_45 rfl ?_
  refine r_aload_n (pc := 46) X dX8_image_46 rfl ?_
  refine r_getiW (pc := 47) X dX8_image_47 tf_8_22 rfl (kc_80 C) (show M 80 4 = enF (sV σ) from Q.s.2.2.2.2.1) ?_
  refine r_putiW (pc := 50) X dX8_image_50 tf_8_169 rfl (Or.inl rfl) (kc_80 C) ⟨rfl, rfl⟩ ?_
  refine r_aload_n (pc := 53) X dX8_image_53 rfl ?_
  refine r_aload_n (pc := 54) X dX8_image_54 rfl ?_
  refine r_getiW (pc := 55) X dX8_image_55 tf_8_123 rfl (kc_80 C) (show M 80 37 = nI (sSe σ).length from Q.se.1) ?_
  refine r_putiW (pc := 58) X dX8_image_58 tf_8_172 rfl (Or.inl rfl) (kc_80 C) ⟨rfl, rfl⟩ ?_
  refine r_aload_n (pc := 61) X dX8_image_61 rfl ?_
  refine r_aload_n (pc := 62) X dX8_image_62 rfl ?_
  refine r_getiW (pc := 63) X dX8_image_63 tf_8_132 rfl (kc_80 C) (show M 80 40 = nI (sGa σ).length from Q.ga.1) ?_
  refine r_putiW (pc := 66) X dX8_image_66 tf_8_175 rfl (Or.inl rfl) (kc_80 C) ⟨rfl, rfl⟩ ?_
  refine r_aload_n (pc := 69) X dX8_image_69 rfl ?_
  refine r_aload_n (pc := 70) X dX8_image_70 rfl ?_
  refine r_getiW (pc := 71) X dX8_image_71 tf_8_135 rfl (kc_80 C) (show M 80 41 = nI (sBo σ).length from Q.bo.1) ?_
  refine r_putiW (pc := 74) X dX8_image_74 tf_8_178 rfl (Or.inl rfl) (kc_80 C) ⟨rfl, rfl⟩ ?_
  refine r_iconst (pc := 77) (v := (nI 0)) X dX8_image_77 (by decide) ?_
  refine r_istore_n (pc := 78) X dX8_image_78 (Nat.le_of_ble_eq_true rfl) ?_
  refine lc_image0 (d + 9) C X (fun M1 z1 c1 => ?_) 6 0 _ (by omega) CpK.rf
  refine r_iconst (pc := 175) (v := (nI 0)) X dX8_image_175 (by decide) ?_
  refine r_istore_n (pc := 176) X dX8_image_176 (Nat.le_of_ble_eq_true rfl) ?_
  refine lc_image1 (d + 9) C X (fun M2 z2 c2 => ?_) 24 0 _ (by omega) CpK.rf
  refine r_iconst (pc := 201) (v := (nI 0)) X dX8_image_201 (by decide) ?_
  refine r_istore_n (pc := 202) X dX8_image_202 (Nat.le_of_ble_eq_true rfl) ?_
  refine lc_image2 (d + 9) C X (fun M3 z3 c3 => ?_) 10 0 _ (by omega) CpK.rf
  refine r_iconst (pc := 239) (v := (nI 0)) X dX8_image_239 (by decide) ?_
  refine r_istore_n (pc := 240) X dX8_image_240 (Nat.le_of_ble_eq_true rfl) ?_
  refine lc_image3 (d + 9) C X (fun M4 z4 c4 => ?_) 8 0 _ (by omega) CpK.rf
  have r9 := im_rep Q O ⟨M1, M2, M3, c1, c2, c3, c4⟩ (fun b hb => by rw [mU_ne hb, mU_ne hb, mU_ne hb, mU_ne hb, mU_ne hb, mU_ne hb, mU_ne hb, mU_ne hb, mU_ne hb, mU_ne hb]) (fun j hj => by rw [mU_eq, pk_un (by omega), mU_eq, pk_un (by omega), mU_eq, pk_un (by omega), mU_eq, pk_un (by omega), mU_eq, pk_un (by omega), mU_eq, pk_un (by omega), mU_eq, pk_un (by omega), mU_eq, pk_un (by omega), mU_eq, pk_un (by omega), mU_eq, pk_un (by omega)]) rfl rfl ⟨rfl, rfl, rfl, rfl, rfl⟩ rfl rfl rfl
  refine r_aload_n (pc := 277) X dX8_image_277 rfl ?_
  refine r_getiW (pc := 278) X dX8_image_278 tf_8_7 rfl (kc_80 C) ((show M4 80 0 = sV σ 0 6 from r9.1.s.1)) ?_
  refine r_iret (pc := 281) X dX8_image_281 rfl rfl ?_
  exact ⟨QM.mk rfl r9.1 (FM.in r9.2), rfl⟩
set_option maxRecDepth 10000 in
set_option maxHeartbeats 4000000 in
theorem n_undo : ∀ (d : Nat) {σ : SG} {h : hp_T} {M : Mem} {B0 : Nat} (C : CS h) (Q : MRep σ M (h_l h)) (O : OK B0 σ), Ex (d + 9) nX8_undo [.ref 80] (wi h M) 0 0 (QM (f_undo σ) h M) := by
  intro d σ h M B0 C Q O
  refine Ex.of mm_X8_undo (Nat.le_of_ble_eq_true rfl) fun w κ X hk hnm => ?_
  cases e : sIm σ with
  | none =>
    have hz := Q.2.2.2.1.1.1 e
    refine r_aload_n (pc := 0) X dX8_undo_0 rfl ?_
    refine r_getiW (pc := 1) X dX8_undo_1 tf_8_150 rfl (kc_80 C) hz ?_
    refine r_if_ne (pc := 4) X dX8_undo_4 (tgt := 10) (by decide) (fun c4 => ?_) (fun c4 => ?_)
    · exact absurd rfl c4
    · refine r_bipush (pc := 7) (v := (-3)) X dX8_undo_7 (by decide) ?_
      refine r_iret (pc := 9) X dX8_undo_9 rfl rfl ?_
      exact ⟨QM.mk (σ1 := σ) (by rw [f_undo, e]) Q FM.rf, rfl⟩
  | some s =>
    have hz := (Q.2.2.2.1.1.2 s e).1
    have hi := (Q.2.2.2.1.1.2 s e).2
    refine r_aload_n (pc := 0) X dX8_undo_0 rfl ?_
    refine r_getiW (pc := 1) X dX8_undo_1 tf_8_150 rfl (kc_80 C) hz ?_
    refine r_if_ne (pc := 4) X dX8_undo_4 (tgt := 10) (by decide) (fun c4 => ?_) (fun c4 => ?_)
    · refine r_aload_n (pc := 10) X dX8_undo_10 rfl ?_
      refine r_aload_n (pc := 11) X dX8_undo_11 rfl ?_
      refine r_getiW (pc := 12) X dX8_undo_12 tf_8_154 rfl (kc_80 C) (show M 80 47 = enI s.2.1 from hi.1) ?_
      refine r_putiW (pc := 15) X dX8_undo_15 tf_8_47 rfl (Or.inl rfl) (kc_80 C) ⟨rfl, rfl⟩ ?_
      refine r_aload_n (pc := 18) X dX8_undo_18 rfl ?_
      refine r_aload_n (pc := 19) X dX8_undo_19 rfl ?_
      refine r_getiW (pc := 20) X dX8_undo_20 tf_8_157 rfl (kc_80 C) (show M 80 48 = s.1 0 6 from hi.2.1.1) ?_
      refine r_putiW (pc := 23) X dX8_undo_23 tf_8_7 rfl (Or.inl rfl) (kc_80 C) ⟨rfl, rfl⟩ ?_
      refine r_aload_n (pc := 26) X dX8_undo_26 rfl ?_
      refine r_aload_n (pc := 27) X dX8_undo_27 rfl ?_
      refine r_getiW (pc := 28) X dX8_undo_28 tf_8_160 rfl (kc_80 C) (show M 80 49 = s.1 0 9 from hi.2.1.2.1) ?_
      refine r_putiW (pc := 31) X dX8_undo_31 tf_8_13 rfl (Or.inl rfl) (kc_80 C) ⟨rfl, rfl⟩ ?_
      refine r_aload_n (pc := 34) X dX8_undo_34 rfl ?_
      refine r_aload_n (pc := 35) X dX8_undo_35 rfl ?_
      refine r_getiW (pc := 36) X dX8_undo_36 tf_8_163 rfl (kc_80 C) (show M 80 50 = bkF s.1 from hi.2.1.2.2.1) ?_
      refine r_putiW (pc := 39) X dX8_undo_39 tf_8_16 rfl (Or.inl rfl) (kc_80 C) ⟨rfl, rfl⟩ ?_
      refine r_aload_n (pc := 42) X dX8_undo_42 rfl ?_
      refine r_aload_n (pc := 43) X dX8_undo_43 rfl ?_
      refine r_getiW (pc := 44) X dX8_undo_44 tf_8_166 rfl (kc_80 C) (show M 80 51 = s.1 0 8 from hi.2.1.2.2.2.1) ?_
      refine r_putiW (pc := 47) X dX8_undo_47 tf_8_19 rfl (Or.inl rfl) (kc_80 C) ⟨rfl, rfl⟩ ?_
      refine r_aload_n (pc := 50) X dX8_undo_50 rfl ?_
      refine r_aload_n (pc := 51) X dX8_undo_51 rfl ?_
      refine r_getiW (pc := 52) X dX8_undo_52 tf_8_169 rfl (kc_80 C) (show M 80 52 = enF s.1 from hi.2.1.2.2.2.2) ?_
      refine r_putiW (pc := 55) X dX8_undo_55 tf_8_22 rfl (Or.inl rfl) (kc_80 C) ⟨rfl, rfl⟩ ?_
      refine r_aload_n (pc := 58) X dX8_undo_58 rfl ?_
      refine r_aload_n (pc := 59) X dX8_undo_59 rfl ?_
      refine r_getiW (pc := 60) X dX8_undo_60 tf_8_172 rfl (kc_80 C) (show M 80 53 = nI s.2.2.1.length from hi.2.2.2.1.1) ?_
      refine r_putiW (pc := 63) X dX8_undo_63 tf_8_123 rfl (Or.inl rfl) (kc_80 C) ⟨rfl, rfl⟩ ?_
      refine r_aload_n (pc := 66) X dX8_undo_66 rfl ?_
      refine r_aload_n (pc := 67) X dX8_undo_67 rfl ?_
      refine r_getiW (pc := 68) X dX8_undo_68 tf_8_175 rfl (kc_80 C) (show M 80 54 = nI s.2.2.2.1.length from hi.2.2.2.2.1.1) ?_
      refine r_putiW (pc := 71) X dX8_undo_71 tf_8_132 rfl (Or.inl rfl) (kc_80 C) ⟨rfl, rfl⟩ ?_
      refine r_aload_n (pc := 74) X dX8_undo_74 rfl ?_
      refine r_aload_n (pc := 75) X dX8_undo_75 rfl ?_
      refine r_getiW (pc := 76) X dX8_undo_76 tf_8_178 rfl (kc_80 C) (show M 80 55 = nI s.2.2.2.2.length from hi.2.2.2.2.2.1) ?_
      refine r_putiW (pc := 79) X dX8_undo_79 tf_8_135 rfl (Or.inl rfl) (kc_80 C) ⟨rfl, rfl⟩ ?_
      refine r_iconst (pc := 82) (v := (nI 0)) X dX8_undo_82 (by decide) ?_
      refine r_istore_n (pc := 83) X dX8_undo_83 (Nat.le_of_ble_eq_true rfl) ?_
      refine lc_undo0 (d + 9) C X (fun M1 z1 c1 => ?_) 6 0 _ (by omega) CpK.rf
      refine r_iconst (pc := 180) (v := (nI 0)) X dX8_undo_180 (by decide) ?_
      refine r_istore_n (pc := 181) X dX8_undo_181 (Nat.le_of_ble_eq_true rfl) ?_
      refine lc_undo1 (d + 9) C X (fun M2 z2 c2 => ?_) 24 0 _ (by omega) CpK.rf
      refine r_iconst (pc := 206) (v := (nI 0)) X dX8_undo_206 (by decide) ?_
      refine r_istore_n (pc := 207) X dX8_undo_207 (Nat.le_of_ble_eq_true rfl) ?_
      refine lc_undo2 (d + 9) C X (fun M3 z3 c3 => ?_) 10 0 _ (by omega) CpK.rf
      refine r_iconst (pc := 244) (v := (nI 0)) X dX8_undo_244 (by decide) ?_
      refine r_istore_n (pc := 245) X dX8_undo_245 (Nat.le_of_ble_eq_true rfl) ?_
      refine lc_undo3 (d + 9) C X (fun M4 z4 c4 => ?_) 8 0 _ (by omega) CpK.rf
      have r9 := un_rep Q O e ⟨M1, M2, M3, c1, c2, c3, c4⟩ (fun b hb => by rw [mU_ne hb, mU_ne hb, mU_ne hb, mU_ne hb, mU_ne hb, mU_ne hb, mU_ne hb, mU_ne hb, mU_ne hb]) (fun j h1 h2 h3 h4 h5 => by rw [mU_eq, pk_un (by omega), mU_eq, pk_un (by omega), mU_eq, pk_un (by omega), mU_eq, pk_un (by omega), mU_eq, pk_un (by omega), mU_eq, pk_un (by omega), mU_eq, pk_un (by omega), mU_eq, pk_un (by omega), mU_eq, pk_un (by omega)]) rfl ⟨rfl, rfl, rfl, rfl, rfl⟩ rfl rfl rfl
      refine r_aload_n (pc := 282) X dX8_undo_282 rfl ?_
      refine r_getiW (pc := 283) X dX8_undo_283 tf_8_7 rfl (kc_80 C) ((show M4 80 0 = s.1 0 6 from r9.1.s.1)) ?_
      refine r_iret (pc := 286) X dX8_undo_286 rfl rfl ?_
      exact ⟨QM.mk (by rw [f_undo, e]) r9.1 (FM.in r9.2), rfl⟩
    · exact absurd c4 (by decide)
