/-! the reference as a whole: it holds the same state -/
def enI (e : Option Nat) : Int32 := match e with
  | none => -1
  | some k => nI k
def PvM (M : Mem) (c a b : Nat) (l : PL) : Prop := M 80 c = nI l.length ∧ ∀ i, i < l.length → M a i = (pG l i).1 ∧ M b i = (pG l i).2
def MLs (s : SCN) (M : Mem) : Prop := M 80 12 = enI s.2.1 ∧ PvM M 37 100 101 s.2.2.1 ∧ PvM M 40 102 103 s.2.2.2.1 ∧ PvM M 41 104 105 s.2.2.2.2
def MEvs (l : List EV) (M : Mem) : Prop := M 80 11 = nI l.length ∧ ∀ k, k < l.length → ∃ cl, EvM M k cl ∧ l.getD k E0 = evL cl
def MIm1 (s : SCN) (M : Mem) : Prop := M 80 47 = enI s.2.1 ∧ (M 80 48 = s.1 0 6 ∧ M 80 49 = s.1 0 9 ∧ M 80 50 = bkF s.1 ∧ M 80 51 = s.1 0 8 ∧ M 80 52 = enF s.1) ∧ (∀ f, 1 ≤ f → f ≤ 6 → M (105 + f) = s.1 f) ∧ PvM M 53 112 113 s.2.2.1 ∧ PvM M 54 114 115 s.2.2.2.1 ∧ PvM M 55 116 117 s.2.2.2.2
def MImg (im : Option SCN) (M : Mem) : Prop := ((im = none → M 80 46 = nI 0) ∧ ∀ s, im = some s → M 80 46 = nI 1 ∧ MIm1 s M) ∧ (∀ f i, 1 ≤ f → f ≤ 5 → 6 ≤ i → M (105 + f) i = 0) ∧ ∀ i, 24 ≤ i → M 111 i = 0
def letL : List Int32 := [114, 97, 105, 110, 100, 114, 121, 102, 97, 114, 99, 111, 115, 116]
def MTx (T : TX) (M : Mem) : Prop := (M 80 13 = nI T.1 ∧ ∀ i, i < T.1 → M 87 i = nI (T.2 i)) ∧ ∀ i, i < 14 → M 95 i = letL.getD i 0
def MBl (l : List Int32) (M : Mem) : Prop := M 80 68 = nI l.length ∧ ∀ i, i < l.length → M 118 i = l.getD i 0
def Tm (M : Mem) (L : LMem) : TT := (M 119, M 120, fun u i => if u < 6 ∧ i < 60 then L 121 (60 * u + i) else 0)
def MRep (σ : SG) (M : Mem) (L : LMem) : Prop := (MSt (sV σ) M ∧ M 80 29 = nI 9999) ∧ MLs σ.1 M ∧ MEvs (sEv σ) M ∧ MImg (sIm σ) M ∧ MTx (sXt σ) M ∧ MBl (sBl σ) M ∧ Tm M L = sT σ
def FM (h : hp_T) (M : Mem) (L1 : LMem) (M1 : Mem) : Prop := (∀ b, (b < 80 ∨ 122 < b) → M1 b = M b) ∧ ∀ b, (b < 80 ∨ 122 < b) → L1 b = h_l h b
section S36
variable {σ : SG} {h : hp_T} {M M1 M2 : Mem} {L L1 : LMem} {B B0 : Nat} {V : VT}
theorem FM.rf : FM h M (h_l h) M := ⟨fun _ _ => rfl, fun _ _ => rfl⟩
theorem FM.fa (f : FA M M1) : FM h M (h_l h) M1 := ⟨fun b hb => f.1 b (by omega) (by omega) (by omega), fun _ _ => rfl⟩
theorem FM.tr (a : FM h M (h_l h) M1) (b : FM h M1 L1 M2) : FM h M L1 M2 := ⟨fun q hq => (b.1 q hq).trans (a.1 q hq), b.2⟩
theorem PvM.kept {c a b : Nat} {l : PL} (p : PvM M c a b l) (h0 : M1 80 c = M 80 c) (ha : M1 a = M a) (hb : M1 b = M b) : PvM M1 c a b l := by
  unfold PvM
  rw [h0, ha, hb]
  exact p
theorem MLs.kept {s : SCN} (p : MLs s M) (h0 : ∀ j, j = 12 ∨ j = 37 ∨ j = 40 ∨ j = 41 → M1 80 j = M 80 j) (k : ∀ q, 100 ≤ q → q ≤ 105 → M1 q = M q) : MLs s M1 :=
  ⟨(h0 12 (by omega)).trans p.1, p.2.1.kept (h0 37 (by omega)) (k 100 (by omega) (by omega)) (k 101 (by omega) (by omega)), p.2.2.1.kept (h0 40 (by omega)) (k 102 (by omega) (by omega)) (k 103 (by omega) (by omega)), p.2.2.2.kept (h0 41 (by omega)) (k 104 (by omega) (by omega)) (k 105 (by omega) (by omega))⟩
theorem MEvs.kept {l : List EV} (p : MEvs l M) (h0 : M1 80 11 = M 80 11) (k : ∀ q, 88 ≤ q → q ≤ 93 → M1 q = M q) : MEvs l M1 :=
  ⟨h0.trans p.1, fun j hj => by obtain ⟨cl, e1, e2⟩ := p.2 j hj; exact ⟨cl, e1.kept k, e2⟩⟩
theorem MIm1.kept {s : SCN} (p : MIm1 s M) (h0 : ∀ j, 46 ≤ j → j ≤ 55 → M1 80 j = M 80 j) (k : ∀ q, 106 ≤ q → q ≤ 117 → M1 q = M q) : MIm1 s M1 := by
  refine ⟨(h0 47 (by omega) (by omega)).trans p.1, ?_, fun f h1 h2 => (k (105 + f) (by omega) (by omega)).trans (p.2.2.1 f h1 h2), p.2.2.2.1.kept (h0 53 (by omega) (by omega)) (k 112 (by omega) (by omega)) (k 113 (by omega) (by omega)), p.2.2.2.2.1.kept (h0 54 (by omega) (by omega)) (k 114 (by omega) (by omega)) (k 115 (by omega) (by omega)), p.2.2.2.2.2.kept (h0 55 (by omega) (by omega)) (k 116 (by omega) (by omega)) (k 117 (by omega) (by omega))⟩
  rw [h0 48 (by omega) (by omega), h0 49 (by omega) (by omega), h0 50 (by omega) (by omega), h0 51 (by omega) (by omega), h0 52 (by omega) (by omega)]
  exact p.2.1
theorem MImg.kept {im : Option SCN} (p : MImg im M) (h0 : ∀ j, 46 ≤ j → j ≤ 55 → M1 80 j = M 80 j) (k : ∀ q, 106 ≤ q → q ≤ 117 → M1 q = M q) : MImg im M1 :=
  ⟨⟨fun e => (h0 46 (by omega) (by omega)).trans (p.1.1 e), fun s e => ⟨(h0 46 (by omega) (by omega)).trans (p.1.2 s e).1, (p.1.2 s e).2.kept h0 k⟩⟩, fun f i h1 h2 h3 => by rw [k (105 + f) (by omega) (by omega)]; exact p.2.1 f i h1 h2 h3, fun i hi => by rw [k 111 (by omega) (by omega)]; exact p.2.2 i hi⟩
theorem MTx.kept {T : TX} (p : MTx T M) (h0 : M1 80 13 = M 80 13) (h1 : M1 87 = M 87) (h2 : M1 95 = M 95) : MTx T M1 := by
  unfold MTx
  rw [h0, h1, h2]
  exact p
theorem MBl.kept {l : List Int32} (p : MBl l M) (h0 : M1 80 68 = M 80 68) (h1 : M1 118 = M 118) : MBl l M1 := by
  unfold MBl
  rw [h0, h1]
  exact p
theorem Tm.kept (h0 : M1 119 = M 119) (h1 : M1 120 = M 120) : Tm M1 L = Tm M L := by
  unfold Tm
  rw [h0, h1]
/-- the street changes, nothing else that counts -/
theorem MRep.fa (q : MRep σ M L) (s : MSt V M1) (k : M1 80 29 = nI 9999) (f : FA M M1) : MRep (setV σ V) M1 L :=
  ⟨⟨s, k⟩, q.2.1.kept (fun j hj => f.2 j (by omega) (by omega)) (fun b h1 h2 => f.1 b (by omega) (by omega) (by omega)), q.2.2.1.kept (f.2 11 (by omega) (by omega)) (fun b h1 h2 => f.1 b (by omega) (by omega) (by omega)), q.2.2.2.1.kept (fun j h1 h2 => f.2 j (by omega) (by omega)) (fun b h1 h2 => f.1 b (by omega) (by omega) (by omega)),
    q.2.2.2.2.1.kept (f.2 13 (by omega) (by omega)) (f.1 87 (by omega) (by omega) (by omega)) (f.1 95 (by omega) (by omega) (by omega)), q.2.2.2.2.2.1.kept (f.2 68 (by omega) (by omega)) (f.1 118 (by omega) (by omega) (by omega)), (Tm.kept (f.1 119 (by omega) (by omega) (by omega)) (f.1 120 (by omega) (by omega) (by omega))).trans q.2.2.2.2.2.2⟩
theorem MRep.s (q : MRep σ M L) : MSt (sV σ) M := q.1.1
theorem MRep.ev (q : MRep σ M L) (O : OK B0 σ) : MEv (EE σ) M := by
  unfold EE evE
  have e12 := q.2.1.1
  cases e : sE σ with
  | none =>
    rw [show σ.1.2.1 = none from e] at e12
    exact Or.inl ⟨e12, rfl⟩
  | some k =>
    rw [show σ.1.2.1 = some k from e] at e12
    obtain ⟨cl, e1, e2⟩ := q.2.2.1.2 k (O.1.2.1 k e)
    exact Or.inr ⟨k, cl, e12, e1, e2⟩
theorem MRep.st (q : MRep σ M L) (s : MSt V M1) (f : FS M M1) : MRep (setV σ V) M1 L := q.fa s ((f.2 29 (by omega)).trans q.1.2) f.fa
end S36
def QM (f : Int32 × SG) (h : hp_T) (M : Mem) (v2 : Option Value) (h2 : hp_T) : Prop := v2 = some (.int f.1) ∧ ∃ M1 L1, h2 = wi (wl h L1) M1 ∧ MRep f.2 M1 L1 ∧ FM h M L1 M1
def QN (f : Int64 × SG) (h : hp_T) (M : Mem) (v2 : Option Value) (h2 : hp_T) : Prop := v2 = some (.long f.1) ∧ ∃ M1 L1, h2 = wi (wl h L1) M1 ∧ MRep f.2 M1 L1 ∧ FM h M L1 M1
theorem QM.mk {f : Int32 × SG} {h : hp_T} {M M1 : Mem} {x : Int32} {σ1 : SG} (e : f = (x, σ1)) (q : MRep σ1 M1 (h_l h)) (F : FM h M (h_l h) M1) : QM f h M (some (.int x)) (wi h M1) := by
  subst e
  exact ⟨rfl, M1, h_l h, rfl, q, F⟩
theorem QM.mkL {f : Int32 × SG} {h : hp_T} {M M1 : Mem} {L1 : LMem} {x : Int32} {σ1 : SG} (e : f = (x, σ1)) (q : MRep σ1 M1 L1) (F : FM h M L1 M1) : QM f h M (some (.int x)) (wi (wl h L1) M1) := by
  subst e
  exact ⟨rfl, M1, L1, rfl, q, F⟩
theorem QN.mk {f : Int64 × SG} {h : hp_T} {M M1 : Mem} {x : Int64} {σ1 : SG} (e : f = (x, σ1)) (q : MRep σ1 M1 (h_l h)) (F : FM h M (h_l h) M1) : QN f h M (some (.long x)) (wi h M1) := by
  subst e
  exact ⟨rfl, M1, h_l h, rfl, q, F⟩
/-- an asked run is under way: the street is V, what was is put aside -/
def RS (σ : SG) (M0 M : Mem) (V : VT) : Prop := MSt V M ∧ SvP (sV σ) M ∧ M 80 29 = nI 2000000000 ∧ FA M0 M ∧ Kp (sV σ) V ∧ ZV V ∧ MEv (EE σ) M
section S37
variable {σ : SG} {h : hp_T} {M M0 : Mem} {B B0 : Nat} {V : VT}
theorem RS.s (r : RS σ M0 M V) : MSt V M := r.1
theorem a_save (d : Nat) (C : CS h) (q : MRep σ M (h_l h)) (O : OK B0 σ) : Ev d nX8_save [.ref 80] (wi h M) (fun M1 => RS σ M M1 (sV σ)) :=
  Ex.imp (m_save d C q.s) (fun v2 h2 z => by
    obtain ⟨M1, rfl, rfl, s, p, k, f⟩ := z
    exact ⟨M1, rfl, rfl, s, p, k, f, Kp.rf, O.z, (q.ev O).fa f⟩)
theorem a_gives (d : Nat) (C : CS h) (r : RS σ M0 M V) (hW : WF B V) {p : Nat} (hp : p < vP V) : Ev d nX8_gives [.ref 80, .int (nI p)] (wi h M) (fun M1 => RS σ M0 M1 (handF V (nI p))) :=
  Ex.imp (m_gives d C r.s hW hp) (fun v2 h2 z => by
    obtain ⟨M1, rfl, rfl, s, f⟩ := z
    exact ⟨M1, rfl, rfl, s, r.2.1.fs f, (f.2 29 (by omega)).trans r.2.2.1, r.2.2.2.1.tr f.fa, r.2.2.2.2.1.tr Kp.hand, r.2.2.2.2.2.1.hand, r.2.2.2.2.2.2.fs f⟩)
theorem RS.uf (r : RS σ M0 M V) {f k : Nat} {x : Int32} (hf : 3 ≤ f ∧ f ≤ 5) (hk : k < 6) : RS σ M0 (mU M (80 + f) (upd (M (80 + f)) k x)) (vU V f k x) := by
  have fs : FS M (mU M (80 + f) (upd (M (80 + f)) k x)) := FS.uf (by omega)
  exact ⟨r.s.uf (by omega), r.2.1.fs fs, (fs.2 29 (by omega)).trans r.2.2.1, r.2.2.2.1.tr fs.fa, r.2.2.2.2.1.tr (Kp.u (by omega)), r.2.2.2.2.2.1.U (by omega), r.2.2.2.2.2.2.fs fs⟩
theorem RS.u8 (r : RS σ M0 M V) {x : Int32} : RS σ M0 (mU M 80 (upd (M 80) 3 x)) (vU V 0 8 x) := by
  have fs : FS M (mU M 80 (upd (M 80) 3 x)) := FS.u0 (by omega)
  exact ⟨r.s.u8, r.2.1.fs fs, (fs.2 29 (by omega)).trans r.2.2.1, r.2.2.2.1.tr fs.fa, r.2.2.2.2.1.tr (Kp.u (by omega)), r.2.2.2.2.2.1.U (by omega), r.2.2.2.2.2.2.fs fs⟩
theorem a_go (d n : Nat) (C : CS h) (r : RS σ M0 M V) (O : OK B0 σ) (hW : WF B V) (hn : n ≤ 1000) (hB : B + 2 * n ≤ 1000000) : Ev (d + 6) nX8_goSteps [.ref 80, .int (nI n)] (wi h M) (fun M1 => RS σ M0 M1 (goF (EE σ) n V)) :=
  Ex.imp (m_goSteps d n C r.s r.2.2.2.2.2.2 hW O.ew hn r.2.2.1 (by omega) (by omega) hB) (fun v2 h2 z => by
    obtain ⟨M1, rfl, rfl, s, f⟩ := z
    exact ⟨M1, rfl, rfl, s, r.2.1.fs f, (f.2 29 (by omega)).trans r.2.2.1, r.2.2.2.1.tr f.fa, r.2.2.2.2.1.tr (Kp.goes n), r.2.2.2.2.2.1.goes O.ew n hW hB, r.2.2.2.2.2.2.fs f⟩)
theorem ZV.goes' {E : EV} (hE : EW E) (n : Nat) (hW : WF B V) (hB : B + 2 * n ≤ 1000000) (z : ZV V) : ZV (goF E n V) := ZV.goes hE n hW hB z
theorem a_back (d : Nat) (C : CS h) (r : RS σ M0 M V) (q : MRep σ M0 (h_l h)) (O : OK B0 σ) : Ev d nX8_putBack [.ref 80] (wi h M) (fun M1 => MRep σ M1 (h_l h) ∧ FM h M0 (h_l h) M1) :=
  Ex.imp (m_putBack d C r.s r.2.1 r.2.2.2.2.1 O.z r.2.2.2.2.2.1) (fun v2 h2 z => by
    obtain ⟨M1, rfl, rfl, s, k, f⟩ := z
    exact ⟨M1, rfl, rfl, q.fa s k (r.2.2.2.1.tr f), FM.fa (r.2.2.2.1.tr f)⟩)
theorem a_toEnd (d : Nat) (C : CS h) (r : RS σ M0 M V) (O : OK B0 σ) (hW : WF B V) (hB : B + 200 ≤ 1000000) : Ei (d + 6) nX8_toEnd [.ref 80] (wi h M) (fun r1 M1 => r1 = nI (endN (EE σ) V) ∧ ∃ V1, RS σ M0 M1 V1) :=
  Ex.imp (m_toEnd d C r.s r.2.2.2.2.2.2 hW O.ew r.2.2.2.2.2.1 r.2.2.1 (by omega) (by omega) hB) (fun v2 h2 z => by
    obtain ⟨r1, M1, rfl, rfl, rfl, V1, s, k, z1, f⟩ := z
    exact ⟨_, M1, rfl, rfl, rfl, V1, s, r.2.1.fs f, (f.2 29 (by omega)).trans r.2.2.1, r.2.2.2.1.tr f.fa, r.2.2.2.2.1.tr k, z1, r.2.2.2.2.2.2.fs f⟩)
theorem RS.a3 (r : RS σ M0 M V) (k : Nat) : M 83 k = V 3 k := r.s.a3 k
theorem RS.a4 (r : RS σ M0 M V) (k : Nat) : M 84 k = V 4 k := r.s.a4 k
theorem RS.a5 (r : RS σ M0 M V) (k : Nat) : M 85 k = V 5 k := r.s.a5 k
theorem RS.k5 (r : RS σ M0 M V) {k : Nat} (hk : k < 6) : M 99 k = sV σ 5 k := (r.2.1.2 k hk).2.2
theorem RS.k3 (r : RS σ M0 M V) {k : Nat} (hk : k < 6) : M 97 k = sV σ 3 k := (r.2.1.2 k hk).1
theorem RS.pp (r : RS σ M0 M V) (O : OK B0 σ) : M 80 0 = nI (vP (sV σ)) := r.s.1.trans (r.2.2.2.2.1.1.trans O.w.1)
theorem MRep.pp {L : LMem} (q : MRep σ M L) (O : OK B0 σ) : M 80 0 = nI (vP (sV σ)) := q.s.1.trans O.w.1
theorem or_bk (hW : WF B V) : orF5 (bkF V) = holdF V := by
  have h6 := hW.2.1
  unfold bkF holdF
  by_cases c : V 0 6 = 0
  · rw [if_pos c, if_pos c]
    rfl
  · rw [if_neg c, if_neg c, hW.2.2.1.1]
    exact if_neg (nI_pos (by have := hW.2.2.1.2; omega))
theorem or_en (hW : WF B V) : orF5 (enF V) = V 0 10 := by
  have h6 := hW.2.1
  unfold enF
  rcases hW.2.2.2.2.2.1 with e | ⟨q, hq, e⟩
  · rw [e, if_pos rfl]
    rfl
  · rw [e, if_neg (nI_ne5 (by omega))]
    exact if_neg (nI_pos (by omega))
theorem in_off {x : Int32} {P a : Nat} (hP : P ≤ 6) (ha : a ≤ 100) (h1 : 1 ≤ a) : inF x (nI a) (nI (a - 1) + nI P) = hasF (x - nI a) (nI P) := by
  rw [nI_add]
  cases e : hasF (x - nI a) (nI P) with
  | true =>
    unfold hasF at e
    rw [Bool.and_eq_true] at e
    obtain ⟨e1, e2⟩ := e
    simp only [Bool.not_eq_true', decide_eq_false_iff_not] at e1 e2
    obtain ⟨p, hp, ep⟩ := nI_of e1
    rw [ep] at e2
    have hlt : p < P := Nat.not_le.mp fun z => e2 (nI_le z hp)
    have ex : x = nI (p + a) := by rw [← nI_add, ← ep, Int32.sub_add_cancel]
    unfold inF
    rw [ex, decide_eq_false (nI_nlt (by omega) (by omega)), decide_eq_false (nI_nlt (by omega) (by omega))]
    rfl
  | false =>
    cases e2 : inF x (nI a) (nI (a - 1 + P)) with
    | false => rfl
    | true =>
      obtain ⟨t, h2, h3, rfl⟩ := inF_lo e2 (by omega) (by omega)
      rw [nI_subn h2] at e
      unfold hasF at e
      rw [decide_eq_false (nI_pos (by omega)), decide_eq_false (nI_ge (by omega) (by omega))] at e
      cases e
end S37
set_option maxRecDepth 10000 in
set_option maxHeartbeats 4000000 in
theorem m_endsIn : ∀ (d : Nat) {σ : SG} {h : hp_T} {M : Mem} {B0 : Nat} (C : CS h) (Q : MRep σ M (h_l h)) (O : OK B0 σ) (hB : B0 + 2000 ≤ 1000000), Ei (d + 7) nX8_endsIn [.ref 80] (wi h M) (fun r M1 => r = nI (endN (EE σ) (sV σ)) ∧ MRep σ M1 (h_l h) ∧ FM h M (h_l h) M1) := by
  intro d σ h M B0 C Q O hB
  refine Ex.of mm_X8_endsIn (Nat.le_of_ble_eq_true rfl) fun w κ X hk hnm => ?_
  refine r_aload_n (pc := 0) X dX8_endsIn_0 rfl ?_
  refine r_c0_0VW (pc := 1) X rfl dX8_endsIn_1 tc_8_353 mm_X8_save (kc_80 C) rfl rfl (a_save (d + 6) C Q O) (Nat.le_of_ble_eq_true rfl) (fun M1 q1 => ?_)
  refine r_aload_n (pc := 4) X dX8_endsIn_4 rfl ?_
  refine r_c0_0IW (pc := 5) X rfl dX8_endsIn_5 tc_8_362 mm_X8_toEnd (kc_80 C) rfl rfl (a_toEnd d C q1 O O.w (by omega)) (Nat.le_of_ble_eq_true rfl) (fun r5 M5 q5 => ?_)
  obtain ⟨rfl, V5, r5⟩ := q5
  refine r_istore_n (pc := 8) X dX8_endsIn_8 (Nat.le_of_ble_eq_true rfl) ?_
  refine r_aload_n (pc := 9) X dX8_endsIn_9 rfl ?_
  refine r_c0_0VW (pc := 10) X rfl dX8_endsIn_10 tc_8_359 mm_X8_putBack (kc_80 C) rfl rfl (a_back (d + 6) C r5 Q O) (Nat.le_of_ble_eq_true rfl) (fun M10 q10 => ?_)
  refine r_iload_n (pc := 13) X dX8_endsIn_13 rfl ?_
  refine r_iret (pc := 14) X dX8_endsIn_14 rfl rfl ?_
  exact ⟨⟨_, _, rfl, rfl, rfl, q10⟩, rfl⟩
set_option maxRecDepth 10000 in
set_option maxHeartbeats 4000000 in
theorem n_ends : ∀ (d : Nat) {σ : SG} {h : hp_T} {M : Mem} {B0 : Nat} (C : CS h) (Q : MRep σ M (h_l h)) (O : OK B0 σ) (hB : B0 + 2000 ≤ 1000000), Ex (d + 9) nX8_ends [.ref 80] (wi h M) 0 0 (QM (f_ends σ) h M) := by
  intro d σ h M B0 C Q O hB
  refine Ex.of mm_X8_ends (Nat.le_of_ble_eq_true rfl) fun w κ X hk hnm => ?_
  refine r_aload_n (pc := 0) X dX8_ends_0 rfl ?_
  refine r_c0_0IW (pc := 1) X rfl dX8_ends_1 tc_8_365 mm_X8_endsIn (kc_80 C) rfl rfl (m_endsIn (d + 1) C Q O hB) (Nat.le_of_ble_eq_true rfl) (fun r1 M1 q1 => ?_)
  obtain ⟨rfl, Q1, F1⟩ := q1
  refine r_istore_n (pc := 4) X dX8_ends_4 (Nat.le_of_ble_eq_true rfl) ?_
  refine r_iload_n (pc := 5) X dX8_ends_5 rfl ?_
  refine r_bipush (pc := 6) (v := (nI 99)) X dX8_ends_6 (by decide) ?_
  refine r_icmp_le (pc := 8) X dX8_ends_8 (tgt := 16) (by decide) (fun c8 => ?_) (fun c8 => ?_)
  · refine r_iload_n (pc := 16) X dX8_ends_16 rfl ?_
    refine r_iret (pc := 17) X dX8_ends_17 rfl rfl ?_
    refine ⟨QM.mk (σ1 := σ) ?_ Q1 F1, rfl⟩
    simp (decide := true) [f_ends, c8]
  · refine r_bipush (pc := 11) (v := (-5)) X dX8_ends_11 (by decide) ?_
    refine r_goto (pc := 13) X dX8_ends_13 (tgt := 17) (by decide) ?_
    refine r_iret (pc := 17) X dX8_ends_17 rfl rfl ?_
    refine ⟨QM.mk (σ1 := σ) ?_ Q1 F1, rfl⟩
    simp (decide := true) [f_ends, c8]
