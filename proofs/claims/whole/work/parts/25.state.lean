/-! THE STATE that class and reference both hold: the street, which evening holds, what was told by hand; the image; evenings; the text; bodies that ran; tapes -/
abbrev PL : Type := List (Int32 × Int32)
abbrev SCN : Type := VT × Option Nat × (PL × PL × PL)
abbrev SG : Type := SCN × Option SCN × List EV × TX × List Int32 × TT
abbrev sV (σ : SG) : VT := σ.1.1
abbrev sE (σ : SG) : Option Nat := σ.1.2.1
abbrev sSe (σ : SG) : PL := σ.1.2.2.1
abbrev sGa (σ : SG) : PL := σ.1.2.2.2.1
abbrev sBo (σ : SG) : PL := σ.1.2.2.2.2
abbrev sIm (σ : SG) : Option SCN := σ.2.1
abbrev sEv (σ : SG) : List EV := σ.2.2.1
abbrev sXt (σ : SG) : TX := σ.2.2.2.1
abbrev sBl (σ : SG) : List Int32 := σ.2.2.2.2.1
abbrev sT (σ : SG) : TT := σ.2.2.2.2.2
abbrev setV (σ : SG) (V : VT) : SG := ((V, σ.1.2), σ.2)
def evE (l : List EV) (e : Option Nat) : EV := match e with
  | none => E0
  | some k => l.getD k E0
def EE (σ : SG) : EV := evE (sEv σ) (sE σ)
/-- beyond the people nothing was said, and no row stands -/
def NZ (V : VT) : Prop := ∀ p, vP V ≤ p → V 5 p = 0 ∧ ∀ j, j < 4 → V 6 (p * 4 + j) = 0
def pG (l : PL) (i : Nat) : Int32 × Int32 := l.getD i (0, 0)
def OKS (B ne : Nat) (s : SCN) : Prop := (WF B s.1 ∧ ZV s.1 ∧ NZ s.1) ∧ (∀ k, s.2.1 = some k → k < ne) ∧
  (s.2.2.1.length ≤ 6 ∧ ∀ i, i < s.2.2.1.length → ∃ p n, p < vP s.1 ∧ n ≤ 60 ∧ pG s.2.2.1 i = (nI p, nI n)) ∧
  (s.2.2.2.1.length ≤ 10 ∧ ∀ i, i < s.2.2.2.1.length → ∃ p, pG s.2.2.2.1 i = (nI 0, nI 0) ∨ pG s.2.2.2.1 i = (nI 1, nI 0) ∨ (p < vP s.1 ∧ pG s.2.2.2.1 i = (nI 2, nI p))) ∧
  (s.2.2.2.2.length ≤ 8 ∧ ∀ i, i < s.2.2.2.2.length → ∃ p n, p < vP s.1 ∧ n ≤ 9999 ∧ pG s.2.2.2.2 i = (nI p, nI n))
def OK (B : Nat) (σ : SG) : Prop := OKS B (sEv σ).length σ.1 ∧ (∀ s, sIm σ = some s → OKS B (sEv σ).length s) ∧ ((sEv σ).length ≤ 6 ∧ ∀ k, k < (sEv σ).length → EW ((sEv σ).getD k E0)) ∧
  ((sXt σ).1 ≤ 100 ∧ ∀ i, i < (sXt σ).1 → (sXt σ).2 i ≤ 127) ∧ (sBl σ).length ≤ 20 ∧ WT (sT σ)
theorem EW_E0 : EW E0 := ⟨⟨12, by omega, rfl⟩, ⟨5, by omega, rfl⟩⟩
theorem OK.w {B : Nat} {σ : SG} (h : OK B σ) : WF B (sV σ) := h.1.1.1
theorem OK.z {B : Nat} {σ : SG} (h : OK B σ) : ZV (sV σ) := h.1.1.2.1
theorem OK.ew {B : Nat} {σ : SG} (h : OK B σ) : EW (EE σ) := by
  unfold EE evE
  split
  · exact EW_E0
  · rename_i k e
    exact h.2.2.1.2 k (h.1.2.1 k e)
/-! the class's cells -/
def PrV (M : Mem) (b : Nat) (l : PL) : Prop := M b 2 = nI l.length ∧ ∀ i, i < l.length → M (b + 1) i = (pG l i).1 ∧ M (b + 2) i = (pG l i).2
def GmV (M : Mem) (b : Nat) (l : PL) : Prop := M b 2 = nI l.length ∧ ∀ i, i < l.length → M (b + 1) i = (pG l i).1 ∧ ((pG l i).1 = nI 2 → M (b + 2) i = (pG l i).2)
def evId (e : Option Nat) : Option Nat := match e with
  | none => none
  | some k => some (123 + 2 * k)
def SceneC (s : SCN) (h : hp_T) (M : Mem) (o a b c : Nat) : Prop := Sv M o = s.1 ∧ h_r h o 11 = evId s.2.1 ∧ PrV M a s.2.2.1 ∧ GmV M b s.2.2.2.1 ∧ PrV M c s.2.2.2.2
def HyC (M : Mem) (o a b c : Nat) : Prop := ZV (Sv M o) ∧ ZP M a 6 ∧ ZP M b 10 ∧ ZP M c 8
def ImgC (im : Option SCN) (h : hp_T) (M : Mem) : Prop := (im = none → M 23 2 = nI 0) ∧ ∀ s, im = some s → M 23 2 = nI 1 ∧ SceneC s h M 42 49 52 55
def EvK (h : hp_T) (M : Mem) (k : Nat) (E : EV) : Prop := ck h (123 + 2 * k) 0 1 ∧ h_r h (123 + 2 * k) 0 = some (124 + 2 * k) ∧ ∃ n, ck h (124 + 2 * k) 1 n ∧ n ≤ 100 ∧ okC n (M (124 + 2 * k)) ∧ E = (M (123 + 2 * k) 1, M (123 + 2 * k) 2, rainC n (M (124 + 2 * k)))
def EvsC (l : List EV) (h : hp_T) (M : Mem) : Prop := M 23 6 = nI l.length ∧ h_n h = 123 + 2 * l.length ∧ ∀ k, k < l.length → EvK h M k (l.getD k E0)
def BlC (l : List Int32) (M : Mem) : Prop := M 68 1 = nI l.length ∧ ∀ i, i < l.length → M 69 i = l.getD i 0
def CRep (σ : SG) (h : hp_T) (M : Mem) : Prop := CS h ∧ SceneC σ.1 h M 25 32 35 38 ∧ HyC M 25 32 35 38 ∧ ImgC (sIm σ) h M ∧ HyC M 42 49 52 55 ∧ ZV (Sv M 58) ∧ EvsC (sEv σ) h M ∧ TxS (sXt σ) M ∧ BlC (sBl σ) M ∧ Tc M (h_l h) = sT σ
section S25
variable {σ : SG} {h g : hp_T} {M M1 M2 : Mem} {B : Nat}
theorem CRep.C (R : CRep σ h M) : CS h := R.1
theorem CRep.v (R : CRep σ h M) : Sv M 25 = sV σ := R.2.1.1
theorem CRep.e11 (R : CRep σ h M) : h_r h 25 11 = evId (sE σ) := R.2.1.2.1
theorem CRep.se (R : CRep σ h M) : PrV M 32 (sSe σ) := R.2.1.2.2.1
theorem CRep.ga (R : CRep σ h M) : GmV M 35 (sGa σ) := R.2.1.2.2.2.1
theorem CRep.bo (R : CRep σ h M) : PrV M 38 (sBo σ) := R.2.1.2.2.2.2
theorem CRep.hy (R : CRep σ h M) : HyC M 25 32 35 38 := R.2.2.1
theorem CRep.im (R : CRep σ h M) : ImgC (sIm σ) h M := R.2.2.2.1
theorem CRep.hk (R : CRep σ h M) : HyC M 42 49 52 55 := R.2.2.2.2.1
theorem CRep.tz (R : CRep σ h M) : ZV (Sv M 58) := R.2.2.2.2.2.1
theorem CRep.ev (R : CRep σ h M) : EvsC (sEv σ) h M := R.2.2.2.2.2.2.1
theorem CRep.tx (R : CRep σ h M) : TxS (sXt σ) M := R.2.2.2.2.2.2.2.1
theorem CRep.bl (R : CRep σ h M) : BlC (sBl σ) M := R.2.2.2.2.2.2.2.2.1
theorem CRep.tp (R : CRep σ h M) : Tc M (h_l h) = sT σ := R.2.2.2.2.2.2.2.2.2
-- what stays
theorem PrV.kept {b : Nat} {l : PL} (a : PrV M b l) (k : ∀ q, b ≤ q → q ≤ b + 2 → M1 q = M q) : PrV M1 b l := by
  unfold PrV
  rw [k b (by omega) (by omega), k (b + 1) (by omega) (by omega), k (b + 2) (by omega) (by omega)]
  exact a
theorem GmV.kept {b : Nat} {l : PL} (a : GmV M b l) (k : ∀ q, b ≤ q → q ≤ b + 2 → M1 q = M q) : GmV M1 b l := by
  unfold GmV
  rw [k b (by omega) (by omega), k (b + 1) (by omega) (by omega), k (b + 2) (by omega) (by omega)]
  exact a
theorem SceneC.kept {s : SCN} {o a b c : Nat} (z : SceneC s h M o a b c) (k1 : ∀ q, o ≤ q → q ≤ o + 6 → M1 q = M q) (k2 : ∀ q, a ≤ q → q ≤ c + 2 → M1 q = M q) (ha : a + 2 < b) (hb : b + 2 < c) (kr : h_r g o 11 = h_r h o 11) : SceneC s g M1 o a b c :=
  ⟨(Sv_same fun f hf => k1 (o + f) (by omega) (by omega)).trans z.1, kr.trans z.2.1, z.2.2.1.kept fun q h1 h2 => k2 q (by omega) (by omega), z.2.2.2.1.kept fun q h1 h2 => k2 q (by omega) (by omega), z.2.2.2.2.kept fun q h1 h2 => k2 q (by omega) (by omega)⟩
theorem ZP.kept {b n : Nat} (z : ZP M b n) (k : ∀ q, b ≤ q → q ≤ b + 2 → M1 q = M q) : ZP M1 b n := fun i hi => by
  rw [k (b + 1) (by omega) (by omega), k (b + 2) (by omega) (by omega)]
  exact z i hi
theorem HyC.kept {o a b c : Nat} (z : HyC M o a b c) (k1 : ∀ q, o ≤ q → q ≤ o + 6 → M1 q = M q) (k2 : ∀ q, a ≤ q → q ≤ c + 2 → M1 q = M q) (ha : a + 2 < b) (hb : b + 2 < c) : HyC M1 o a b c :=
  ⟨by rw [Sv_same fun f hf => k1 (o + f) (by omega) (by omega)]; exact z.1, z.2.1.kept fun q h1 h2 => k2 q (by omega) (by omega), z.2.2.1.kept fun q h1 h2 => k2 q (by omega) (by omega), z.2.2.2.kept fun q h1 h2 => k2 q (by omega) (by omega)⟩
theorem EvK.kept {k : Nat} {E : EV} (z : EvK h M k E) (k1 : M1 (123 + 2 * k) = M (123 + 2 * k)) (k2 : M1 (124 + 2 * k) = M (124 + 2 * k)) (kk : h_k g = h_k h) (kn : h_n h ≤ h_n g) (kr : h_r g (123 + 2 * k) 0 = h_r h (123 + 2 * k) 0) : EvK g M1 k E := by
  obtain ⟨a1, a2, n, a3, a4, a5, a6⟩ := z
  refine ⟨⟨by rw [kk]; exact a1.1, a1.2.1, Nat.lt_of_lt_of_le a1.2.2 kn⟩, kr.trans a2, n, ⟨by rw [kk]; exact a3.1, a3.2.1, Nat.lt_of_lt_of_le a3.2.2 kn⟩, a4, ?_, ?_⟩
  · rw [k2]; exact a5
  · rw [k1, k2]; exact a6
/-- the reference's cells stay -/
def FR (h : hp_T) (M : Mem) (g : hp_T) (M1 : Mem) : Prop := g.1 = h.1 ∧ ∀ b, 80 ≤ b → b ≤ 122 → M1 b = M b ∧ h_l g b = h_l h b
theorem FR.rf : FR h M h M := ⟨rfl, fun _ _ _ => ⟨rfl, rfl⟩⟩
theorem FR.tr {g2 : hp_T} (a : FR h M g M1) (b : FR g M1 g2 M2) : FR h M g2 M2 := ⟨b.1.trans a.1, fun q h1 h2 => ⟨(b.2 q h1 h2).1.trans (a.2 q h1 h2).1, (b.2 q h1 h2).2.trans (a.2 q h1 h2).2⟩⟩
theorem FR.m (k : ∀ b, 80 ≤ b → b ≤ 122 → M1 b = M b) : FR h M h M1 := ⟨rfl, fun q h1 h2 => ⟨k q h1 h2, rfl⟩⟩
/-- all but the trial street stays -/
theorem CRep.trial (R : CRep σ h M) {r : Option Nat} (k : ∀ b, (b < 58 ∨ 64 < b) → M1 b = M b) (hz : ZV (Sv M1 58)) : CRep σ (sev h 58 r) M1 := by
  refine ⟨R.C.sev (Or.inr (Or.inr rfl)) r, R.2.1.kept (fun q h1 h2 => k q (by omega)) (fun q h1 h2 => k q (by omega)) (by omega) (by omega) rfl, R.hy.kept (fun q h1 h2 => k q (by omega)) (fun q h1 h2 => k q (by omega)) (by omega) (by omega), ?_, R.hk.kept (fun q h1 h2 => k q (by omega)) (fun q h1 h2 => k q (by omega)) (by omega) (by omega), hz, ?_, ?_, ?_, ?_⟩
  · refine ⟨fun e => by rw [k 23 (by omega)]; exact R.im.1 e, fun s e => ⟨by rw [k 23 (by omega)]; exact (R.im.2 s e).1, ?_⟩⟩
    exact (R.im.2 s e).2.kept (fun q h1 h2 => k q (by omega)) (fun q h1 h2 => k q (by omega)) (by omega) (by omega) rfl
  · refine ⟨by rw [k 23 (by omega)]; exact R.ev.1, R.ev.2.1, fun j hj => (R.ev.2.2 j hj).kept (k _ (by omega)) (k _ (by omega)) rfl (Nat.le_refl _) ?_⟩
    show (if 123 + 2 * j = 58 then va_up (h_r h 58) 11 r else h_r h (123 + 2 * j)) 0 = _
    rw [if_neg (by omega)]
  · unfold TxS
    rw [k 65 (by omega), k 66 (by omega)]
    exact R.tx
  · unfold BlC
    rw [k 68 (by omega), k 69 (by omega)]
    exact R.bl
  · show (M1 71, M1 72, _) = _
    rw [k 71 (by omega), k 72 (by omega)]
    exact R.tp
theorem FR.trial {r : Option Nat} (k : ∀ b, (b < 58 ∨ 64 < b) → M1 b = M b) : FR h M (sev h 58 r) M1 := ⟨rfl, fun q h1 h2 => ⟨k q (by omega), rfl⟩⟩
theorem evC_of (R : CRep σ h M) (O : OK B σ) {r : Option Nat} (hr : r = evId (sE σ)) : evC h M r (EE σ) := by
  unfold EE
  cases e : sE σ with
  | none =>
    rw [e] at hr
    exact Or.inl ⟨hr, rfl⟩
  | some k =>
    rw [e] at hr
    obtain ⟨a1, a2, n, a3, a4, a5, a6⟩ := R.ev.2.2 k (O.1.2.1 k e)
    exact Or.inr ⟨123 + 2 * k, 124 + 2 * k, n, hr, a1, a2, a3, a4, a5, a6⟩
theorem evD_of (R : CRep σ h M) (O : OK B σ) {o : Nat} (ho : o + 6 < 123) {r : Option Nat} (hr : r = evId (sE σ)) : evD h o r := by
  intro e he
  rw [hr] at he
  cases e1 : sE σ with
  | none => rw [e1] at he; cases he
  | some k =>
    rw [e1] at he
    cases he
    obtain ⟨a1, a2, -⟩ := R.ev.2.2 k (O.1.2.1 k e1)
    refine ⟨by omega, fun c hc => ?_⟩
    rw [a2] at hc
    cases hc
    omega
theorem ev20 {e : Option Nat} {r : Option Nat} (hr : r = evId e) : ∀ q, r = some q → 23 ≤ q := by
  intro q hq
  rw [hr] at hq
  cases e with
  | none => cases hq
  | some k => cases hq; omega
/-- a trial is under way: its view is V -/
def TS (σ : SG) (g : hp_T) (M : Mem) (V : VT) : Prop := CRep σ g M ∧ Sv M 58 = V ∧ h_r g 58 11 = evId (sE σ)
theorem TS.R {V : VT} (T : TS σ g M V) : CRep σ g M := T.1
theorem TS.e {V : VT} (T : TS σ g M V) (O : OK B σ) : evC g M (h_r g 58 11) (EE σ) := evC_of T.1 O T.2.2
theorem TS.d {V : VT} (T : TS σ g M V) (O : OK B σ) : evD g 58 (h_r g 58 11) := evD_of T.1 O (by omega) T.2.2
theorem sev_self {t : Nat} {r : Option Nat} (e : h_r g t 11 = r) : sev g t r = g := by
  have e2 : (fun b => if b = t then va_up (h_r g t) 11 r else g.2.2.2.2 b) = g.2.2.2.2 := by
    funext b
    by_cases c : b = t
    · subst c
      rw [if_pos rfl]
      funext i
      unfold va_up
      by_cases c2 : i = 11
      · subst c2
        rw [if_pos rfl]
        exact e.symm
      · rw [if_neg c2]
        rfl
    · rw [if_neg c]
  show (g.1, g.2.1, g.2.2.1, g.2.2.2.1, _) = g
  rw [e2]
theorem TS.pS {V V1 : VT} (T : TS σ g M V) (p : pS M 58 V1 M1) (hz : ZV V1) : TS σ g M1 V1 ∧ FR g M g M1 := by
  have e := T.1.trial (r := h_r g 58 11) (M1 := M1) (fun b hb => p.2 b (by omega)) (by rw [p.1]; exact hz)
  rw [sev_self rfl] at e
  exact ⟨⟨e, p.1, T.2.2⟩, FR.m fun b h1 h2 => p.2 b (by omega)⟩
end S25
/-- behind a public method: its answer, and the state -/
def QC (f : Int32 × SG) (h : hp_T) (M : Mem) (v2 : Option Value) (h2 : hp_T) : Prop := v2 = some (.int f.1) ∧ ∃ g M1, h2 = wi g M1 ∧ CRep f.2 g M1 ∧ FR h M g M1
def QL (f : Int64 × SG) (h : hp_T) (M : Mem) (v2 : Option Value) (h2 : hp_T) : Prop := v2 = some (.long f.1) ∧ ∃ g M1, h2 = wi g M1 ∧ CRep f.2 g M1 ∧ FR h M g M1
theorem QC.mk {f : Int32 × SG} {h g : hp_T} {M M1 : Mem} {x : Int32} {σ1 : SG} (e : f = (x, σ1)) (R : CRep σ1 g M1) (F : FR h M g M1) : QC f h M (some (.int x)) (wi g M1) := by
  subst e
  exact ⟨rfl, g, M1, rfl, R, F⟩
theorem QL.mk {f : Int64 × SG} {h g : hp_T} {M M1 : Mem} {x : Int64} {σ1 : SG} (e : f = (x, σ1)) (R : CRep σ1 g M1) (F : FR h M g M1) : QL f h M (some (.long x)) (wi g M1) := by
  subst e
  exact ⟨rfl, g, M1, rfl, R, F⟩
section RW25
variable {w : wc_T} {κ : cx_T} {d own nL : Nat} {cc : ByteArray} {rt : Option FieldType} {Φ : Option Value → hp_T → Prop} {pc : Nat} {L : List (Option Value)} {st : List Value} {h : hp_T}
theorem r_if_eqB (X : CX w κ d own cc nL rt Φ) {b : Bool} {off : Int} {tgt : Nat} (dc : decode cc pc = .ok (.ifCond .eq off, 3)) (ht : (pc : Int) + off = (tgt : Int)) (kt : b = false → GG w κ tgt L st h) (kf : b = true → GG w κ (pc + 3) L st h) : GG w κ pc L (.int (b2 b) :: st) h :=
  r_if_eq X dc ht (fun z => kt (b2_z.mp z)) (fun z => kf (b2_n.mp z))
theorem r_if_neB (X : CX w κ d own cc nL rt Φ) {b : Bool} {off : Int} {tgt : Nat} (dc : decode cc pc = .ok (.ifCond .ne off, 3)) (ht : (pc : Int) + off = (tgt : Int)) (kt : b = true → GG w κ tgt L st h) (kf : b = false → GG w κ (pc + 3) L st h) : GG w κ pc L (.int (b2 b) :: st) h :=
  r_if_ne X dc ht (fun z => kt (b2_n.mp z)) (fun z => kf (b2_z.mp z))
end RW25
theorem Ex.imp {d n : Nat} {args : List Value} {h : hp_T} {c s : Nat} {Q Q2 : Option Value → hp_T → Prop} (he : Ex d n args h c s Q) (k : ∀ v h1, Q v h1 → Q2 v h1) : Ex d n args h c s Q2 := by
  intro l w x hm p e ha hf hc st m a below h1 h2 h3 h4
  obtain ⟨k0, o, q1, q2, q3, ⟨v, g1, hq, q5⟩, q6⟩ := he l w x hm p e ha hf hc st m a below h1 h2 h3 h4
  exact ⟨k0, o, q1, q2, q3, ⟨v, g1, k v g1 hq, q5⟩, q6⟩
/-! the trial becomes as the street is -/
theorem t_become : ∀ (d : Nat) {σ : SG} {g : hp_T} {M : Mem} (R : CRep σ g M), Ex (d + 1) nX5_become [.ref 58, .ref 25] (wi g M) 0 0 (fun v2 h2 => ∃ (M1 : Mem) (g1 : hp_T), v2 = none ∧ h2 = wi g1 M1 ∧ TS σ g1 M1 (sV σ) ∧ FR g M g1 M1) := by
  intro d σ g M R
  refine Ex.imp (e_become d (t := 58) (s := 25) (r := evId (sE σ)) (st_58 R.C) (st_25 R.C) R.e11 (by omega) (ev20 rfl) R.tz R.hy.1) (fun v2 h2 q => ?_)
  obtain ⟨M1, rfl, rfl, e, k⟩ := q
  have z : ZV (Sv M1 58) := by rw [e]; exact R.hy.1
  exact ⟨M1, _, rfl, rfl, ⟨R.trial (fun b hb => k b (by omega)) z, e.trans R.v, by show (if 58 = 58 then va_up (h_r g 58) 11 (evId (sE σ)) else h_r g 58) 11 = _; rw [if_pos rfl]; exact if_pos rfl⟩, FR.trial (fun b hb => k b (by omega))⟩
