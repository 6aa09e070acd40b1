/-! the two systems beside each other: each keeps the other's cells -/
theorem CRep.keep {σ : SG} {g : hp_T} {L1 : LMem} {M M1 : Mem} (R : CRep σ g M) (k : ∀ b, (b < 80 ∨ 122 < b) → M1 b = M b) (l : ∀ b, (b < 80 ∨ 122 < b) → L1 b = h_l g b) : CRep σ (wl g L1) M1 := by
  have s1 := R.kS (g := wl g L1) (M1 := M1) rfl (fun q h1 h2 => k q (by omega)) (fun q h1 h2 => k q (by omega))
  have i1 := R.kI (g := wl g L1) (M1 := M1) rfl (by rw [k 23 (by omega)]) (fun q h1 h2 => k q (by omega)) (fun q h1 h2 => k q (by omega))
  refine ⟨R.C, s1.1, s1.2, i1.1, i1.2, R.kZ (fun q h1 h2 => k q (by omega)), ⟨by rw [k 23 (by omega)]; exact R.ev.1, R.ev.2.1, fun j hj => (R.ev.2.2 j hj).kept (k _ (by omega)) (k _ (by omega)) rfl (Nat.le_refl _) rfl⟩, ?_, R.kB (by rw [k 68 (by omega)]) (k 69 (by omega)), ?_⟩
  · unfold TxS
    rw [k 65 (by omega), k 66 (by omega)]
    exact R.tx
  · exact (Tc_L (M := M1) (L := h_l g) (L1 := L1) (fun u hu => l _ (by omega))).trans (R.kP (k 71 (by omega)) (k 72 (by omega)))
theorem MRep.keep {σ : SG} {L L1 : LMem} {M M1 : Mem} (q : MRep σ M L) (k : ∀ b, 80 ≤ b → b ≤ 122 → M1 b = M b) (l : L1 121 = L 121) : MRep σ M1 L1 := by
  have k80 := k 80 (by omega) (by omega)
  refine ⟨⟨⟨by rw [k80]; exact q.s.1, by rw [k80]; exact q.s.2.1, by rw [k80]; exact q.s.2.2.1, by rw [k80]; exact q.s.2.2.2.1, by rw [k80]; exact q.s.2.2.2.2.1, fun f h1 h2 => (k (80 + f) (by omega) (by omega)).trans (q.s.2.2.2.2.2 f h1 h2)⟩, by rw [k80]; exact q.1.2⟩, q.2.1.kept (fun j _ => by rw [k80]) (fun b h1 h2 => k b (by omega) (by omega)), q.es.kept (by rw [k80]) (fun b h1 h2 => k b (by omega) (by omega)), q.im.kept (fun j _ _ => by rw [k80]) (fun b h1 h2 => k b (by omega) (by omega)),
    q.tx.kept (by rw [k80]) (k 87 (by omega) (by omega)) (k 95 (by omega) (by omega)), q.bl.kept (by rw [k80]) (k 118 (by omega) (by omega)), ?_⟩
  have e : Tm M1 L1 = Tm M L := by
    unfold Tm
    rw [k 119 (by omega) (by omega), k 120 (by omega) (by omega), l]
  exact e.trans q.tp
theorem lw_c1 {f : Int32 × SG} {σ : SG} {h : hp_T} {M : Mem} {v1 : Option Value} {h1 : hp_T} (q : QC f h M v1 h1) (m : MRep σ M (h_l h)) : v1 = some (.int f.1) ∧ ∃ g M1, h1 = wi g M1 ∧ CRep f.2 g M1 ∧ MRep σ M1 (h_l g) ∧ g.1 = h.1 := by
  obtain ⟨rfl, g, M1, rfl, R, F⟩ := q
  exact ⟨rfl, g, M1, rfl, R, m.keep (fun b h1 h2 => (F.2 b h1 h2).1) (F.2 121 (by omega) (by omega)).2, F.1⟩
theorem lw_l1 {f : Int64 × SG} {σ : SG} {h : hp_T} {M : Mem} {v1 : Option Value} {h1 : hp_T} (q : QL f h M v1 h1) (m : MRep σ M (h_l h)) : v1 = some (.long f.1) ∧ ∃ g M1, h1 = wi g M1 ∧ CRep f.2 g M1 ∧ MRep σ M1 (h_l g) ∧ g.1 = h.1 := by
  obtain ⟨rfl, g, M1, rfl, R, F⟩ := q
  exact ⟨rfl, g, M1, rfl, R, m.keep (fun b h1 h2 => (F.2 b h1 h2).1) (F.2 121 (by omega) (by omega)).2, F.1⟩
theorem lw_e1 {f : Int32 × SG} {σ : SG} {h : hp_T} {M : Mem} {v1 : Option Value} {h1 : hp_T} (q : QE f h M v1 h1) (m : MRep σ M (h_l h)) : v1 = some (.int f.1) ∧ ∃ g M1, h1 = wi g M1 ∧ CRep f.2 g M1 ∧ MRep σ M1 (h_l g) := by
  obtain ⟨rfl, g, M1, rfl, R, F⟩ := q
  exact ⟨rfl, g, M1, rfl, R, m.keep (fun b h1 h2 => (F b h1 h2).1) (F 121 (by omega) (by omega)).2⟩
def Inv (B S : Nat) (h : hp_T) : Prop := ∃ σ, CRep σ h (h_i h) ∧ MRep σ (h_i h) (h_l h) ∧ OK B σ ∧ 2 * h_s h + 103 * 123 ≤ 2 * S + 103 * h_n h
theorem lw_c2 {f : Int32 × SG} {g : hp_T} {M1 : Mem} {v2 : Option Value} {h2 : hp_T} {B S : Nat} (R : CRep f.2 g M1) (q : QM f g M1 v2 h2) (O : OK B f.2) (hs : 2 * h_s g + 103 * 123 ≤ 2 * S + 103 * h_n g) : v2 = some (.int f.1) ∧ Inv B S h2 := by
  obtain ⟨rfl, M2, L2, rfl, m, F⟩ := q
  exact ⟨rfl, f.2, R.keep F.1 F.2, m, O, hs⟩
theorem lw_l2 {f : Int64 × SG} {g : hp_T} {M1 : Mem} {v2 : Option Value} {h2 : hp_T} {B S : Nat} (R : CRep f.2 g M1) (q : QN f g M1 v2 h2) (O : OK B f.2) (hs : 2 * h_s g + 103 * 123 ≤ 2 * S + 103 * h_n g) : v2 = some (.long f.1) ∧ Inv B S h2 := by
  obtain ⟨rfl, M2, L2, rfl, m, F⟩ := q
  exact ⟨rfl, f.2, R.keep F.1 F.2, m, O, hs⟩
/-! how a constructor builds: the heap is as it was, but for the object o and for new cells K -/
abbrev CD : Type := (Nat × Nat) × (Nat → Int32) × (Nat → Option Nat)
def d0c : CD := ((0, 0), (fun _ => 0), fun _ => none)
def nw (t n : Nat) : CD := ((t, n), (fun _ => 0), fun _ => none)
def Bs (h0 : hp_T) (o z : Nat) (K : List CD) (f : Nat → Int32) (R : Nat → Option Nat) (h : hp_T) : Prop :=
  (h_n h = h_n h0 + K.length ∧ h_s h = h_s h0 + z) ∧ (∀ b, b < h_n h0 → h_k h b = h_k h0 b ∧ h_l h b = h_l h0 b ∧ (b ≠ o → h_i h b = h_i h0 b ∧ h_r h b = h_r h0 b)) ∧
  (∀ i, i < K.length → h_k h (h_n h0 + i) = (K.getD i d0c).1 ∧ h_i h (h_n h0 + i) = (K.getD i d0c).2.1 ∧ h_l h (h_n h0 + i) = (fun _ => 0) ∧ h_r h (h_n h0 + i) = (K.getD i d0c).2.2) ∧ h_i h o = f ∧ h_r h o = R
theorem cd_app {a b : List CD} {i : Nat} : (a ++ b).getD i d0c = if i < a.length then a.getD i d0c else b.getD (i - a.length) d0c := by
  rw [List.getD_eq_getElem?_getD, List.getElem?_append]
  split
  · rw [List.getD_eq_getElem?_getD]
  · rw [List.getD_eq_getElem?_getD]
section S68
variable {h0 h : hp_T} {o z : Nat} {K : List CD} {f : Nat → Int32} {R : Nat → Option Nat}
theorem Bs.start (hf : h_i h o = f) (hr : h_r h o = R) : Bs h o 0 [] f R h := ⟨⟨rfl, rfl⟩, fun _ _ => ⟨rfl, rfl, fun _ => ⟨rfl, rfl⟩⟩, fun i hi => absurd hi (Nat.not_lt_zero _), hf, hr⟩
theorem Bs.ck (B : Bs h0 o z K f R h) (ho : o < h_n h0) {ci : Nat} (c : ck h0 o 0 ci) : _root_.Jvm.Pilot.@@N@@.ck h o 0 ci := ⟨(B.2.1 o ho).1.trans c.1, c.2.1, by have := B.1.1; omega⟩
theorem Bs.new (B : Bs h0 o z K f R h) (ho : o < h_n h0) {t n len : Nat} : Bs h0 o (z + len) (K ++ [nw t n]) f R (nC h t n len) := by
  obtain ⟨⟨b1, b2⟩, b3, b4, b5, b6⟩ := B
  have e : h.1.1 = h_n h0 + K.length := b1
  have e2 : h.1.2 = h_s h0 + z := b2
  have hl : (K ++ [nw t n]).length = K.length + 1 := by rw [List.length_append]; rfl
  refine ⟨⟨by show h.1.1 + 1 = _; omega, by show h.1.2 + len = _; omega⟩, fun b hb => ?_, fun i hi => ?_, ?_, ?_⟩
  · have n1 : ¬ b = h.1.1 := by omega
    obtain ⟨c1, c2, c3⟩ := b3 b hb
    exact ⟨(if_neg n1).trans c1, (if_neg n1).trans c2, fun hne => ⟨(if_neg n1).trans (c3 hne).1, (if_neg n1).trans (c3 hne).2⟩⟩
  · by_cases c : i < K.length
    · have n1 : ¬ h_n h0 + i = h.1.1 := by omega
      obtain ⟨c1, c2, c3, c4⟩ := b4 i c
      rw [cd_app, if_pos c]
      exact ⟨(if_neg n1).trans c1, (if_neg n1).trans c2, (if_neg n1).trans c3, (if_neg n1).trans c4⟩
    · have n1 : h_n h0 + i = h.1.1 := by omega
      rw [cd_app, if_neg c, show i - K.length = 0 by omega]
      exact ⟨if_pos n1, if_pos n1, if_pos n1, if_pos n1⟩
  · have n1 : ¬ o = h.1.1 := by omega
    exact (if_neg n1).trans b5
  · have n1 : ¬ o = h.1.1 := by omega
    exact (if_neg n1).trans b6
theorem Bs.putr (B : Bs h0 o z K f R h) (ho : o < h_n h0) {k : Nat} {r : Option Nat} : Bs h0 o z K f (va_up R k r) (sR h o (va_up (h_r h o) k r)) := by
  obtain ⟨b1, b3, b4, b5, b6⟩ := B
  refine ⟨b1, fun b hb => ⟨(b3 b hb).1, (b3 b hb).2.1, fun hne => ⟨((b3 b hb).2.2 hne).1, (if_neg hne).trans ((b3 b hb).2.2 hne).2⟩⟩, fun i hi => ⟨(b4 i hi).1, (b4 i hi).2.1, (b4 i hi).2.2.1, (if_neg (by omega)).trans (b4 i hi).2.2.2⟩, b5, ?_⟩
  show (if o = o then va_up (h_r h o) k r else h_r h o) = _
  rw [if_pos rfl, b6]
theorem Bs.puti (B : Bs h0 o z K f R h) (ho : o < h_n h0) {k : Nat} {x : Int32} : Bs h0 o z K (upd f k x) R (sI h o (upd (h_i h o) k x)) := by
  obtain ⟨b1, b3, b4, b5, b6⟩ := B
  refine ⟨b1, fun b hb => ⟨(b3 b hb).1, (b3 b hb).2.1, fun hne => ⟨(if_neg hne).trans ((b3 b hb).2.2 hne).1, ((b3 b hb).2.2 hne).2⟩⟩, fun i hi => ⟨(b4 i hi).1, (if_neg (by omega)).trans (b4 i hi).2.1, (b4 i hi).2.2.1, (b4 i hi).2.2.2⟩, ?_, b6⟩
  show (if o = o then upd (h_i h o) k x else h_i h o) = _
  rw [if_pos rfl, b5]
theorem cd_set {i j : Nat} {x : CD} (hi : i < K.length) : (K.set i x).getD j d0c = if j = i then x else K.getD j d0c := by
  rw [List.getD_eq_getElem?_getD, List.getElem?_set]
  by_cases c : i = j
  · subst c
    rw [if_pos rfl, if_pos hi, if_pos rfl]
    rfl
  · rw [if_neg c, if_neg (fun e => c e.symm), List.getD_eq_getElem?_getD]
theorem Bs.setI (B : Bs h0 o z K f R h) (ho : o < h_n h0) {i : Nat} (hi : i < K.length) {g : Nat → Int32} : Bs h0 o z (K.set i ((K.getD i d0c).1, g, (K.getD i d0c).2.2)) f R (sI h (h_n h0 + i) g) := by
  obtain ⟨b1, b3, b4, b5, b6⟩ := B
  refine ⟨by rw [List.length_set]; exact b1, fun b hb => ⟨(b3 b hb).1, (b3 b hb).2.1, fun hne => ⟨(if_neg (by omega)).trans ((b3 b hb).2.2 hne).1, ((b3 b hb).2.2 hne).2⟩⟩, fun j hj => ?_, ?_, b6⟩
  · rw [List.length_set] at hj
    obtain ⟨c1, c2, c3, c4⟩ := b4 j hj
    rw [cd_set hi]
    by_cases c : j = i
    · subst c
      rw [if_pos rfl]
      exact ⟨c1, if_pos rfl, c3, c4⟩
    · rw [if_neg c]
      exact ⟨c1, (if_neg (by omega)).trans c2, c3, c4⟩
  · exact (if_neg (by omega)).trans b5
theorem Bs.call {ci z1 : Nat} {K1 : List CD} {f1 : Nat → Int32} {R1 : Nat → Option Nat} {h2 : hp_T} (B : Bs h0 o z (K ++ [nw 0 ci]) f R h) (ho : o < h_n h0) (B1 : Bs h (h_n h0 + K.length) z1 K1 f1 R1 h2) : Bs h0 o (z + z1) (K ++ [((0, ci), f1, R1)] ++ K1) f R h2 := by
  obtain ⟨⟨b1, b2⟩, b3, b4, b5, b6⟩ := B
  obtain ⟨⟨d1, d2⟩, d3, d4, d5, d6⟩ := B1
  have hl : (K ++ [nw 0 ci]).length = K.length + 1 := by rw [List.length_append]; rfl
  have hl2 : (K ++ [((0, ci), f1, R1)] ++ K1).length = K.length + 1 + K1.length := by rw [List.length_append, List.length_append]; rfl
  have hl3 : (K ++ [(((0, ci), f1, R1) : CD)]).length = K.length + 1 := by rw [List.length_append]; rfl
  rw [hl] at b1 b4
  refine ⟨⟨by omega, by omega⟩, fun b hb => ?_, fun i hi => ?_, ?_, ?_⟩
  · obtain ⟨c1, c2, c3⟩ := b3 b hb
    obtain ⟨e1, e2, e3⟩ := d3 b (by omega)
    have e3 := e3 (by omega)
    exact ⟨e1.trans c1, e2.trans c2, fun hne => ⟨e3.1.trans (c3 hne).1, e3.2.trans (c3 hne).2⟩⟩
  · rw [hl2] at hi
    rw [cd_app, hl3]
    by_cases c : i < K.length + 1
    · rw [if_pos c, cd_app]
      obtain ⟨c1, c2, c3, c4⟩ := b4 i c
      obtain ⟨e1, e2, e3⟩ := d3 (h_n h0 + i) (by omega)
      rw [cd_app] at c1 c2 c4
      by_cases cc : i < K.length
      · rw [if_pos cc] at c1 c2 c4
        rw [if_pos cc]
        have e3 := e3 (by omega)
        exact ⟨e1.trans c1, e3.1.trans c2, e2.trans c3, e3.2.trans c4⟩
      · have ei : i = K.length := by omega
        subst ei
        rw [if_neg cc, Nat.sub_self] at c1 c2 c4
        rw [if_neg cc, Nat.sub_self]
        exact ⟨e1.trans c1, d5, e2.trans c3, d6⟩
    · rw [if_neg c]
      obtain ⟨e1, e2, e3, e4⟩ := d4 (i - (K.length + 1)) (by omega)
      rw [show h_n h + (i - (K.length + 1)) = h_n h0 + i by omega] at e1 e2 e3 e4
      exact ⟨e1, e2, e3, e4⟩
  · obtain ⟨e1, e2, e3⟩ := d3 o (by omega)
    exact (e3 (by omega)).1.trans b5
  · obtain ⟨e1, e2, e3⟩ := d3 o (by omega)
    exact (e3 (by omega)).2.trans b6
def rw6 (n : Nat) : CD := ((5, 6), (fun _ => 0), fun j => if j < 6 then some (n + 1 + j) else none)
theorem Bs.mnew (B : Bs h0 o z K f R h) (ho : o < h_n h0) : Bs h0 o (z + 366) (K ++ [rw6 (h_n h0 + K.length), nw 4 60, nw 4 60, nw 4 60, nw 4 60, nw 4 60, nw 4 60]) f R (mN h) := by
  obtain ⟨⟨b1, b2⟩, b3, b4, b5, b6⟩ := B
  have e : h.1.1 = h_n h0 + K.length := b1
  have e2 : h.1.2 = h_s h0 + z := b2
  have hl : (K ++ [rw6 (h_n h0 + K.length), nw 4 60, nw 4 60, nw 4 60, nw 4 60, nw 4 60, nw 4 60]).length = K.length + 7 := by rw [List.length_append]; rfl
  refine ⟨⟨by show h.1.1 + 7 = _; omega, by show h.1.2 + 366 = _; omega⟩, fun b hb => ?_, fun i hi => ?_, ?_, ?_⟩
  · obtain ⟨c1, c2, c3⟩ := b3 b hb
    have n1 : ¬ b = h.1.1 := by omega
    have n2 : ¬ (h.1.1 ≤ b ∧ b < h.1.1 + 7) := by omega
    have n3 : ¬ (h.1.1 < b ∧ b < h.1.1 + 7) := by omega
    exact ⟨((if_neg n1).trans (if_neg n3)).trans c1, (if_neg n2).trans c2, fun hne => ⟨(if_neg n2).trans (c3 hne).1, ((if_neg n1).trans (if_neg n2)).trans (c3 hne).2⟩⟩
  · rw [cd_app]
    by_cases c : i < K.length
    · rw [if_pos c]
      obtain ⟨c1, c2, c3, c4⟩ := b4 i c
      have n1 : ¬ h_n h0 + i = h.1.1 := by omega
      have n2 : ¬ (h.1.1 ≤ h_n h0 + i ∧ h_n h0 + i < h.1.1 + 7) := by omega
      have n3 : ¬ (h.1.1 < h_n h0 + i ∧ h_n h0 + i < h.1.1 + 7) := by omega
      exact ⟨((if_neg n1).trans (if_neg n3)).trans c1, (if_neg n2).trans c2, (if_neg n2).trans c3, ((if_neg n1).trans (if_neg n2)).trans c4⟩
    · rw [if_neg c]
      have n2 : h.1.1 ≤ h_n h0 + i ∧ h_n h0 + i < h.1.1 + 7 := by omega
      by_cases c2 : i = K.length
      · have n1 : h_n h0 + i = h.1.1 := by omega
        rw [show i - K.length = 0 by omega]
        refine ⟨if_pos n1, if_pos n2, if_pos n2, (if_pos n1).trans ?_⟩
        show (fun j => if j < 6 then some (h.1.1 + 1 + j) else none) = (fun j => if j < 6 then some (h_n h0 + K.length + 1 + j) else none)
        rw [e]
      · have n1 : ¬ h_n h0 + i = h.1.1 := by omega
        have n3 : h.1.1 < h_n h0 + i ∧ h_n h0 + i < h.1.1 + 7 := by omega
        have eg : [rw6 (h_n h0 + K.length), nw 4 60, nw 4 60, nw 4 60, nw 4 60, nw 4 60, nw 4 60].getD (i - K.length) d0c = nw 4 60 := by
          rcases (show i - K.length = 1 ∨ i - K.length = 2 ∨ i - K.length = 3 ∨ i - K.length = 4 ∨ i - K.length = 5 ∨ i - K.length = 6 by omega) with q | q | q | q | q | q <;> rw [q] <;> rfl
        rw [eg]
        exact ⟨(if_neg n1).trans (if_pos n3), if_pos n2, if_pos n2, (if_neg n1).trans (if_pos n2)⟩
  · have n2 : ¬ (h.1.1 ≤ o ∧ o < h.1.1 + 7) := by omega
    exact (if_neg n2).trans b5
  · have n1 : ¬ o = h.1.1 := by omega
    have n2 : ¬ (h.1.1 ≤ o ∧ o < h.1.1 + 7) := by omega
    exact ((if_neg n1).trans (if_neg n2)).trans b6
end S68
section RW68
variable {w : wc_T} {κ : cx_T} {d own nL : Nat} {cc : ByteArray} {rt : Option FieldType} {Φ : Option Value → hp_T → Prop} {pc : Nat} {L : List (Option Value)} {st : List Value} {h h0 : hp_T} {o z c s : Nat} {K : List CD} {f : Nat → Int32} {R : Nat → Option Nat}
theorem g_newa1 (X : CX w κ d own cc nL rt Φ) (hκ : k_1 κ = (h_n h0 + c, h_s h0 + s)) (B : Bs h0 o z K f R h) (ho : o < h_n h0) {n m : Nat} {i : Int32} (dc : decode cc pc = .ok (.newarray .int, 2)) (hi : i = nI n) (hn : n < 65536) (hm : K.length = m) (hc : m + 1 ≤ c ∧ z + n ≤ s) (kk : ∀ h1, Bs h0 o (z + n) (K ++ [nw 1 n]) f R h1 → GG w κ (pc + 2) L (.ref (h_n h0 + m) :: st) h1) : GG w κ pc L (.int i :: st) h := by
  subst hm
  have e1 := B.1.1
  have e2 := B.1.2
  refine r_newa1 X dc hi hn (by rw [hκ]; exact ⟨by show h_n h + 1 ≤ h_n h0 + c; omega, by show h_s h + n ≤ h_s h0 + s; omega⟩) ?_
  have k1 := kk _ (B.new (t := 1) (n := n) (len := n) ho)
  rw [← e1] at k1
  exact k1
theorem g_newa2 (X : CX w κ d own cc nL rt Φ) (hκ : k_1 κ = (h_n h0 + c, h_s h0 + s)) (B : Bs h0 o z K f R h) (ho : o < h_n h0) {n m : Nat} {i : Int32} (dc : decode cc pc = .ok (.newarray .byte, 2)) (hi : i = nI n) (hn : n < 65536) (hm : K.length = m) (hc : m + 1 ≤ c ∧ z + n ≤ s) (kk : ∀ h1, Bs h0 o (z + n) (K ++ [nw 2 n]) f R h1 → GG w κ (pc + 2) L (.ref (h_n h0 + m) :: st) h1) : GG w κ pc L (.int i :: st) h := by
  subst hm
  have e1 := B.1.1
  have e2 := B.1.2
  refine r_newa2 X dc hi hn (by rw [hκ]; exact ⟨by show h_n h + 1 ≤ h_n h0 + c; omega, by show h_s h + n ≤ h_s h0 + s; omega⟩) ?_
  have k1 := kk _ (B.new (t := 2) (n := n) (len := n) ho)
  rw [← e1] at k1
  exact k1
theorem g_newa3 (X : CX w κ d own cc nL rt Φ) (hκ : k_1 κ = (h_n h0 + c, h_s h0 + s)) (B : Bs h0 o z K f R h) (ho : o < h_n h0) {n m : Nat} {i : Int32} (dc : decode cc pc = .ok (.newarray .boolean, 2)) (hi : i = nI n) (hn : n < 65536) (hm : K.length = m) (hc : m + 1 ≤ c ∧ z + n ≤ s) (kk : ∀ h1, Bs h0 o (z + n) (K ++ [nw 3 n]) f R h1 → GG w κ (pc + 2) L (.ref (h_n h0 + m) :: st) h1) : GG w κ pc L (.int i :: st) h := by
  subst hm
  have e1 := B.1.1
  have e2 := B.1.2
  refine r_newa3 X dc hi hn (by rw [hκ]; exact ⟨by show h_n h + 1 ≤ h_n h0 + c; omega, by show h_s h + n ≤ h_s h0 + s; omega⟩) ?_
  have k1 := kk _ (B.new (t := 3) (n := n) (len := n) ho)
  rw [← e1] at k1
  exact k1
theorem g_newa4 (X : CX w κ d own cc nL rt Φ) (hκ : k_1 κ = (h_n h0 + c, h_s h0 + s)) (B : Bs h0 o z K f R h) (ho : o < h_n h0) {n m : Nat} {i : Int32} (dc : decode cc pc = .ok (.newarray .long, 2)) (hi : i = nI n) (hn : n < 65536) (hm : K.length = m) (hc : m + 1 ≤ c ∧ z + n ≤ s) (kk : ∀ h1, Bs h0 o (z + n) (K ++ [nw 4 n]) f R h1 → GG w κ (pc + 2) L (.ref (h_n h0 + m) :: st) h1) : GG w κ pc L (.int i :: st) h := by
  subst hm
  have e1 := B.1.1
  have e2 := B.1.2
  refine r_newa4 X dc hi hn (by rw [hκ]; exact ⟨by show h_n h + 1 ≤ h_n h0 + c; omega, by show h_s h + n ≤ h_s h0 + s; omega⟩) ?_
  have k1 := kk _ (B.new (t := 4) (n := n) (len := n) ho)
  rw [← e1] at k1
  exact k1
theorem g_new (X : CX w κ d own cc nL rt Φ) (hκ : k_1 κ = (h_n h0 + c, h_s h0 + s)) (B : Bs h0 o z K f R h) (ho : o < h_n h0) {idx ci m : Nat} (dc : decode cc pc = .ok (.new idx, 3)) (f9 : tn own idx ci) (hm : K.length = m) (hc : m + 1 ≤ c ∧ z + nf ci ≤ s) (hd : ∀ j, j < nf ci → defaultValue (tt ci j) = fa (tt ci j) 0 0 none) (kk : ∀ h1, Bs h0 o (z + nf ci) (K ++ [nw 0 ci]) f R h1 → GG w κ (pc + 3) L (.ref (h_n h0 + m) :: st) h1) : GG w κ pc L st h := by
  subst hm
  have e1 := B.1.1
  have e2 := B.1.2
  refine r_new X dc f9 (by rw [hκ]; exact ⟨by show h_n h + 1 ≤ h_n h0 + c; omega, by show h_s h + nf ci ≤ h_s h0 + s; omega⟩) hd ?_
  have k1 := kk _ (B.new (t := 0) (n := ci) (len := nf ci) ho)
  rw [← e1] at k1
  exact k1
theorem g_mnew (X : CX w κ d own cc nL rt Φ) (hκ : k_1 κ = (h_n h0 + c, h_s h0 + s)) (B : Bs h0 o z K f R h) (ho : o < h_n h0) {idx m : Nat} (dc : decode cc pc = .ok (.multianewarray idx 2, 4)) (hw : Cond.classLink (cn own) idx "[[J" ∈ lw_tbl) (hm : K.length = m) (hc : m + 7 ≤ c ∧ z + 366 ≤ s) (kk : ∀ h1, Bs h0 o (z + 366) (K ++ [rw6 (h_n h0 + m), nw 4 60, nw 4 60, nw 4 60, nw 4 60, nw 4 60, nw 4 60]) f R h1 → GG w κ (pc + 4) L (.ref (h_n h0 + m) :: st) h1) : GG w κ pc L (.int (nI 60) :: .int (nI 6) :: st) h := by
  subst hm
  have e1 := B.1.1
  have e2 := B.1.2
  refine r_mnew X dc hw (by rw [hκ]; exact ⟨by show h_n h + 7 ≤ h_n h0 + c; omega, by show h_s h + 366 ≤ h_s h0 + s; omega⟩) ?_
  have k1 := kk _ (B.mnew ho)
  rw [← e1] at k1
  exact k1
theorem g_putr (X : CX w κ d own cc nL rt Φ) (B : Bs h0 o z K f R h) (ho : o < h_n h0) {idx ci k : Nat} {r : Option Nat} (hck : ck h0 o 0 ci) (dc : decode cc pc = .ok (.putfield idx, 3)) (f9 : tf own idx ci k) (ht : ty_r (tt ci k) = true) (hfin : ff ci k = false ∨ (ff ci k = true ∧ (k_t κ).name = "<init>" ∧ fd ci k = cn own)) (kk : ∀ h1, Bs h0 o z K f (va_up R k r) h1 → GG w κ (pc + 3) L st h1) : GG w κ pc L (va_rf r :: .ref o :: st) h :=
  r_putr X dc f9 ht hfin (B.ck ho hck) (kk _ (B.putr ho))
theorem g_puti (X : CX w κ d own cc nL rt Φ) (B : Bs h0 o z K f R h) (ho : o < h_n h0) {idx ci k : Nat} {x : Int32} (hck : ck h0 o 0 ci) (dc : decode cc pc = .ok (.putfield idx, 3)) (f9 : tf own idx ci k) (ht : ty_i (tt ci k) = true) (hfin : ff ci k = false ∨ (ff ci k = true ∧ (k_t κ).name = "<init>" ∧ fd ci k = cn own)) (hn : narrow (tt ci k) (.int x) = .int x ∧ fits (tt ci k) (.int x) = true) (kk : ∀ h1, Bs h0 o z K (upd f k x) R h1 → GG w κ (pc + 3) L st h1) : GG w κ pc L (.int x :: .ref o :: st) h :=
  r_puti X dc f9 ht hfin (B.ck ho hck) hn (kk _ (B.puti ho))
theorem Bs.ckA (B : Bs h0 o z K f R h) {i t n : Nat} (h20 : 23 ≤ h_n h0) (hi : i < K.length) (hk : (K.getD i d0c).1 = (t, n)) : _root_.Jvm.Pilot.@@N@@.ck h (h_n h0 + i) t n := ⟨(B.2.2.1 i hi).1.trans hk, by omega, by have := B.1.1; omega⟩
theorem set_last {x y : CD} : ∀ K : List CD, (K ++ [x]).set K.length y = K ++ [y] := by
  intro K
  induction K with
  | nil => rfl
  | cons a K ih =>
    show a :: (K ++ [x]).set K.length y = a :: (K ++ [y])
    rw [ih]
theorem Bs.lastI {t : Nat × Nat} {g g2 : Nat → Int32} {r : Nat → Option Nat} (B : Bs h0 o z (K ++ [(t, g, r)]) f R h) (ho : o < h_n h0) : Bs h0 o z (K ++ [(t, g2, r)]) f R (sI h (h_n h0 + K.length) g2) := by
  have e : (K ++ [((t, g, r) : CD)]).getD K.length d0c = (t, g, r) := by
    rw [cd_app, if_neg (Nat.lt_irrefl _), Nat.sub_self]
    rfl
  have q := B.setI (i := K.length) (g := g2) ho (by rw [List.length_append]; exact Nat.lt_succ_self _)
  rw [e, set_last] at q
  exact q
theorem g_iast (X : CX w κ d own cc nL rt Φ) {n m : Nat} {g : Nat → Int32} {r : Nat → Option Nat} (B : Bs h0 o z (K ++ [((1, n), g, r)]) f R h) (ho : o < h_n h0) (h20 : 23 ≤ h_n h0) {j : Nat} {x y : Int32} (dc : decode cc pc = .ok (.iastore, 1)) (hm : K.length = m) (hy : y = nI j) (hj : j < n) (hn : n < 2 ^ 31) (kk : ∀ h1, Bs h0 o z (K ++ [((1, n), upd g j x, r)]) f R h1 → GG w κ (pc + 1) L st h1) : GG w κ pc L (.int x :: .int y :: .ref (h_n h0 + m) :: st) h := by
  subst hm
  have e : (K ++ [(((1, n), g, r) : CD)]).getD K.length d0c = ((1, n), g, r) := by
    rw [cd_app, if_neg (Nat.lt_irrefl _), Nat.sub_self]
    rfl
  have hl : K.length < (K ++ [(((1, n), g, r) : CD)]).length := by rw [List.length_append]; exact Nat.lt_succ_self _
  have b4 := B.2.2.1 K.length hl
  rw [e] at b4
  refine r_iast X dc (B.ckA h20 hl (by rw [e])) hy hj hn ?_
  rw [b4.2.1]
  exact kk _ (B.lastI ho)
theorem g_fill (X : CX w κ (d + 1) own cc nL rt Φ) (B : Bs h0 o z K f R h) (ho : o < h_n h0) (h20 : 23 ≤ h_n h0) {idx i n : Nat} {x : Int32} {K2 : List CD} (hln : L.length = nL) (dc : decode cc pc = .ok (.invokestatic idx, 3)) (f9 : tc own idx nJ7_fill_53178 1 2) (hi : i < K.length) (hk : (K.getD i d0c).1 = (1, n)) (hn : n < 2 ^ 31) (hK : K.set i ((K.getD i d0c).1, fillI (K.getD i d0c).2.1 n x, (K.getD i d0c).2.2) = K2) (hw : (st.map fun v => v.category).sum ≤ 8) (kk : ∀ h1, Bs h0 o z K2 f R h1 → GG w κ (pc + 3) L st h1) : GG w κ pc L (.int x :: .ref (h_n h0 + i) :: st) h := by
  subst hK
  refine r_c1_2V X hln dc f9 mm_J7_fill_53178 (e_fillI d (h := h) (M := h_i h) (B.ckA h20 hi hk) hn) hw (fun M1 e => ?_)
  subst e
  rw [(B.2.2.1 i hi).2.1]
  exact kk _ (B.setI ho hi)
theorem Bs.rr (B : Bs h0 o z K f R h) {k : Nat} {r : Option Nat} (hr : R k = r) : h_r h o k = r := by rw [B.2.2.2.2, hr]
theorem Bs.re (B : Bs h0 o z K f R h) {i k : Nat} {r : Option Nat} (hi : i < K.length) (hr : (K.getD i d0c).2.2 k = r) : h_r h (h_n h0 + i) k = r := by rw [(B.2.2.1 i hi).2.2.2, hr]
theorem g_c20 (X : CX w κ (d + 1) own cc nL rt Φ) (hκ : k_1 κ = (h_n h0 + c, h_s h0 + s)) {ci : Nat} (B : Bs h0 o z (K ++ [nw 0 ci]) f R h) (ho : o < h_n h0) (h20 : 23 ≤ h_n h0) {idx n m c1 z1 : Nat} {K1 : List CD} {f1 : Nat → Int32} {R1 : Nat → Option Nat} {x : mt_T} (hln : L.length = nL) (dc : decode cc pc = .ok (.invokespecial idx, 3)) (f9 : tc own idx n 2 0) (hmt : mt_at n x) (hv : x.2.2.2.1 = none) (hm : K.length = m) (hc : m + 1 + c1 ≤ c ∧ z + z1 ≤ s) (hw : (st.map fun v => v.category).sum ≤ 8)
    (he : ∀ h1 : hp_T, ck h1 (h_n h0 + m) 0 ci → h_i h1 (h_n h0 + m) = (fun _ => 0) → h_r h1 (h_n h0 + m) = (fun _ => none) → h_n h1 = h_n h0 + m + 1 → Ex d n [.ref (h_n h0 + m)] h1 c1 z1 (fun v2 h2 => v2 = none ∧ Bs h1 (h_n h0 + m) z1 K1 f1 R1 h2))
    (kk : ∀ h1, Bs h0 o (z + z1) (K ++ [((0, ci), f1, R1)] ++ K1) f R h1 → GG w κ (pc + 3) L st h1) : GG w κ pc L (.ref (h_n h0 + m) :: st) h := by
  subst hm
  have hl : (K ++ [nw 0 ci]).length = K.length + 1 := by rw [List.length_append]; rfl
  have e1 := B.1.1
  have e2 := B.1.2
  have b4 := B.2.2.1 K.length (by omega)
  rw [cd_app, if_neg (Nat.lt_irrefl _), Nat.sub_self] at b4
  have he1 := he h ⟨b4.1, by omega, by omega⟩ b4.2.1 b4.2.2.2 (by omega)
  intro hg
  refine r_call2 (As := []) X hln dc f9 hmt hv (by omega) rfl he1 (by rw [hκ]; exact ⟨by show h_n h + c1 ≤ h_n h0 + c; omega, by show h_s h + z1 ≤ h_s h0 + s; omega⟩) hw (fun v1 h1 hq _ => ?_) hg
  obtain ⟨rfl, hq⟩ := hq
  exact kk h1 (B.call ho hq)
theorem g_c30 (X : CX w κ (d + 1) own cc nL rt Φ) (hκ : k_1 κ = (h_n h0 + c, h_s h0 + s)) {ci : Nat} (B : Bs h0 o z (K ++ [nw 0 ci]) f R h) (ho : o < h_n h0) (h20 : 23 ≤ h_n h0) {idx n m c1 z1 : Nat} {K1 : List CD} {f1 : Nat → Int32} {R1 : Nat → Option Nat} {x : mt_T} (hln : L.length = nL) (dc : decode cc pc = .ok (.invokespecial idx, 3)) (f9 : tc own idx n 3 0) (hmt : mt_at n x) (hv : x.2.2.2.1 = none) (hm : K.length = m) (hc : m + 1 + c1 ≤ c ∧ z + z1 ≤ s) (hw : (st.map fun v => v.category).sum ≤ 8)
    (he : ∀ h1 : hp_T, ck h1 (h_n h0 + m) 0 ci → h_i h1 (h_n h0 + m) = (fun _ => 0) → h_r h1 (h_n h0 + m) = (fun _ => none) → h_n h1 = h_n h0 + m + 1 → Ex d n [.ref (h_n h0 + m)] h1 c1 z1 (fun v2 h2 => v2 = none ∧ Bs h1 (h_n h0 + m) z1 K1 f1 R1 h2))
    (kk : ∀ h1, Bs h0 o (z + z1) (K ++ [((0, ci), f1, R1)] ++ K1) f R h1 → GG w κ (pc + 3) L st h1) : GG w κ pc L (.ref (h_n h0 + m) :: st) h := by
  subst hm
  have hl : (K ++ [nw 0 ci]).length = K.length + 1 := by rw [List.length_append]; rfl
  have e1 := B.1.1
  have e2 := B.1.2
  have b4 := B.2.2.1 K.length (by omega)
  rw [cd_app, if_neg (Nat.lt_irrefl _), Nat.sub_self] at b4
  have he1 := he h ⟨b4.1, by omega, by omega⟩ b4.2.1 b4.2.2.2 (by omega)
  intro hg
  refine r_call3 (As := []) X hln dc f9 hmt hv (by omega) rfl he1 (by rw [hκ]; exact ⟨by show h_n h + c1 ≤ h_n h0 + c; omega, by show h_s h + z1 ≤ h_s h0 + s; omega⟩) hw (fun v1 h1 hq _ => ?_) hg
  obtain ⟨rfl, hq⟩ := hq
  exact kk h1 (B.call ho hq)
theorem g_c21 (X : CX w κ (d + 1) own cc nL rt Φ) (hκ : k_1 κ = (h_n h0 + c, h_s h0 + s)) {ci : Nat} (B : Bs h0 o z (K ++ [nw 0 ci]) f R h) (ho : o < h_n h0) (h20 : 23 ≤ h_n h0) {idx n m c1 z1 : Nat} {a : Value} {K1 : List CD} {f1 : Nat → Int32} {R1 : Nat → Option Nat} {x : mt_T} (hln : L.length = nL) (dc : decode cc pc = .ok (.invokespecial idx, 3)) (f9 : tc own idx n 2 1) (hmt : mt_at n x) (hv : x.2.2.2.1 = none) (hm : K.length = m) (hc : m + 1 + c1 ≤ c ∧ z + z1 ≤ s) (hw : (st.map fun v => v.category).sum ≤ 8)
    (he : ∀ h1 : hp_T, ck h1 (h_n h0 + m) 0 ci → h_i h1 (h_n h0 + m) = (fun _ => 0) → h_r h1 (h_n h0 + m) = (fun _ => none) → h_n h1 = h_n h0 + m + 1 → Ex d n [.ref (h_n h0 + m), a] h1 c1 z1 (fun v2 h2 => v2 = none ∧ Bs h1 (h_n h0 + m) z1 K1 f1 R1 h2))
    (kk : ∀ h1, Bs h0 o (z + z1) (K ++ [((0, ci), f1, R1)] ++ K1) f R h1 → GG w κ (pc + 3) L st h1) : GG w κ pc L (a :: .ref (h_n h0 + m) :: st) h := by
  subst hm
  have hl : (K ++ [nw 0 ci]).length = K.length + 1 := by rw [List.length_append]; rfl
  have e1 := B.1.1
  have e2 := B.1.2
  have b4 := B.2.2.1 K.length (by omega)
  rw [cd_app, if_neg (Nat.lt_irrefl _), Nat.sub_self] at b4
  have he1 := he h ⟨b4.1, by omega, by omega⟩ b4.2.1 b4.2.2.2 (by omega)
  intro hg
  refine r_call2 (As := [a]) X hln dc f9 hmt hv (by omega) rfl he1 (by rw [hκ]; exact ⟨by show h_n h + c1 ≤ h_n h0 + c; omega, by show h_s h + z1 ≤ h_s h0 + s; omega⟩) hw (fun v1 h1 hq _ => ?_) hg
  obtain ⟨rfl, hq⟩ := hq
  exact kk h1 (B.call ho hq)
end RW68
