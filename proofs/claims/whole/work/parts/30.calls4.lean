/-! told by hand, the image, acts, tapes -/
def f_see (σ : SG) (p n : Int32) : Int32 × SG := if p = -1 then (nI 0, setSe σ []) else if hasF p (sV σ 0 6) then (if inF n (nI 0) (nI 60) then (if 6 ≤ (sSe σ).length then (-4, σ) else (nI ((sSe σ).length + 1), setSe σ (sSe σ ++ [(p, n)]))) else (-2, σ)) else (-1, σ)
def f_game (σ : SG) (x p : Int32) : Int32 × SG := if x = -1 then (nI 0, setGa σ []) else if inF x (nI 0) (nI 2) && (!decide (x = nI 2) || hasF p (sV σ 0 6)) then (if 10 ≤ (sGa σ).length then (-4, σ) else (nI ((sGa σ).length + 1), setGa σ (sGa σ ++ [(x, if x = nI 2 then p else nI 0)]))) else (-1, σ)
def f_book (σ : SG) (p n : Int32) : Int32 × SG := if p = -1 then (nI 0, setBo σ []) else if hasF p (sV σ 0 6) then (if inF n (nI 0) (nI 9999) then (if 8 ≤ (sBo σ).length then (-4, σ) else (nI ((sBo σ).length + 1), setBo σ (sBo σ ++ [(p, n)]))) else (-2, σ)) else (-1, σ)
def lkF (V : VT) (l : PL) : Nat → Nat → Int32
  | 0, _ => -5
  | m + 1, k => if V 5 (pG l k).1.toNatClampNeg = (pG l k).2 then lkF V l m (k + 1) else nI k
def f_looked (σ : SG) : Int32 × SG := (lkF (sV σ) (sBo σ) (sBo σ).length 0, σ)
def juF (T : TT) (V : VT) (t : Nat) (i : Int32) : Nat → Nat → Int32
  | 0, _ => -5
  | m + 1, p => if placeF T t (i + nI p) then (if T.2.2 t (i + nI p).toNatClampNeg = (V 4 p).toInt64 then juF T V t i m (p + 1) else nI p) else nI 100 + nI p
def f_judge (σ : SG) (t i : Int32) : Int32 × SG := if inF t (nI 0) (nI 5) then (if !decide ((sT σ).1 t.toNatClampNeg = -1) && !decide ((sT σ).1 t.toNatClampNeg = 0) then (-12, σ) else (juF (sT σ) (sV σ) t.toNatClampNeg i (vP (sV σ)) 0, σ)) else (-1, σ)
def f_image (σ : SG) : Int32 × SG := (sV σ 0 6, (σ.1, some σ.1, σ.2.2))
def f_undo (σ : SG) : Int32 × SG := match sIm σ with
  | none => (-3, σ)
  | some s => (s.1 0 6, (s, σ.2))
def withL (R : Nat → Nat → Int32 → List Int32 → Int32 × List Int32) (ko : Nat) (v i : Int32) (b : Int32) (x : Int32) (l : List Int32) : Int32 × List Int32 := match b.toNatClampNeg with
  | 10 => (x + i, l)
  | 11 => ((R 0 ko x l).1 - v, (R 0 ko x l).2)
  | 12 => ((R 1 ko x l).1 * nI 2, (R 1 ko x l).2)
  | 20 => ((R 1 0 x l).1 ^^^ nI 6, (R 1 0 x l).2)
  | 30 => R 0 0 (x * nI 3) l
  | 40 => ((R 2 0 x l).1 + (R 1 ko (nI 1) (R 2 0 x l).2).1, (R 1 ko (nI 1) (R 2 0 x l).2).2)
  | 50 => (-(R 0 1 x l).1, (R 0 1 x l).2)
  | 51 => R 1 1 (x + nI 1) l
  | 60 => R 2 2 (x - i) l
  | 70 => ((R 1 3 x l).1 + (R 0 3 (nI 2) (R 1 3 x l).2).1, (R 0 3 (nI 2) (R 1 3 x l).2).2)
  | _ => ((R 0 3 x l).1 ^^^ v, (R 0 3 x l).2)
def runL (ko : Nat) (v i : Int32) : Nat → Nat → Nat → Int32 → List Int32 → Int32 × List Int32
  | 0 => fun _ _ _ l => (nI 0, l)
  | n + 1 => fun a k x l => withL (runL ko v i n) ko v i (bodyOf a k) x (l ++ [bodyOf a k])
def f_act (σ : SG) (p a x : Int32) : Int32 × SG := if hasF p (sV σ 0 6) && inF a (nI 0) (nI 2) then ((runL (sV σ 1 p.toNatClampNeg).toNatClampNeg (sV σ 2 p.toNatClampNeg) p 12 a.toNatClampNeg (sV σ 1 p.toNatClampNeg).toNatClampNeg x []).1, setBl σ (runL (sV σ 1 p.toNatClampNeg).toNatClampNeg (sV σ 2 p.toNatClampNeg) p 12 a.toNatClampNeg (sV σ 1 p.toNatClampNeg).toNatClampNeg x []).2) else (nI 0, setBl σ [])
def f_trace (σ : SG) (x : Int32) : Int32 × SG := (if x < 0 then -1 else if nI (sBl σ).length ≤ x then -1 else if nI 20 ≤ x then -1 else (sBl σ).getD x.toNatClampNeg 0, σ)
def f_taken (σ : SG) (p k : Int32) : Int32 × SG := if inF k (nI 0) (nI 6) then (if hasF p (sV σ 0 6) then (if undF 7 (sV σ 1 p.toNatClampNeg) k then sV σ 1 p.toNatClampNeg else -12, σ) else (-11, σ)) else (-2, σ)
def f_count (σ : SG) (x : Int32) : Int32 × SG := (if x = nI 0 then sV σ 0 6 else if x = nI 1 then nI (sEv σ).length else if x = nI 2 then nI (sSe σ).length else if x = nI 3 then nI (sGa σ).length else if x = nI 4 then nI (sBo σ).length else if x = nI 5 then nI (sXt σ).1 else if x = nI 6 then nI (sBl σ).length else -2, σ)
def f_tape (σ : SG) (t s n : Int32) : Int32 × SG := ((makeF (sT σ) t s n).1, setTp σ (makeF (sT σ) t s n).2)
def f_item (σ : SG) (t i : Int32) (v : Int64) : Int32 × SG := ((putF (sT σ) t i v).1, setTp σ (putF (sT σ) t i v).2)
def f_read (σ : SG) (t i : Int32) : Int64 × SG := if inF t (nI 0) (nI 5) && placeF (sT σ) t.toNatClampNeg i then ((sT σ).2.2 t.toNatClampNeg i.toNatClampNeg, σ) else (-9223372036854775808, σ)
def f_shift (σ : SG) (t i o j n : Int32) : Int32 × SG := ((bringF (sT σ) t i o j n).1, setTp σ (bringF (sT σ) t i o j n).2)
-- rows of pairs
theorem pG_a1 {l : PL} {q : Int32 × Int32} {i : Nat} (h : i < l.length) : pG (l ++ [q]) i = pG l i := by
  unfold pG
  rw [List.getD_eq_getElem?_getD, List.getD_eq_getElem?_getD, List.getElem?_append_left h]
theorem pG_a2 {l : PL} {q : Int32 × Int32} : pG (l ++ [q]) l.length = q := by
  unfold pG
  rw [List.getD_eq_getElem?_getD, List.getElem?_append_right (Nat.le_refl _), Nat.sub_self]
  rfl
theorem add_ge {M : Mem} {b n k : Nat} {x y : Int32} (e : M b 2 = nI k) (h : n ≤ k) (hk : k ≤ 100) : addF M b n x y = (-4, M) := by
  unfold addF
  rw [e, if_neg (nI_nlt h (by omega))]
theorem add_lt {M : Mem} {b n k : Nat} {x y : Int32} (e : M b 2 = nI k) (h : k < n) (hn : n ≤ 100) : addF M b n x y = (nI (k + 1), mU (mU (mU M (b + 1) (upd (M (b + 1)) k x)) (b + 2) (upd (M (b + 2)) k y)) b (upd (M b) 2 (nI (k + 1)))) := by
  unfold addF
  rw [e, if_pos (nI_lt h (by omega))]
  simp only [nI_clamp (show k < 2 ^ 31 by omega)]
theorem PrV.add {M : Mem} {b : Nat} {l : PL} {x y : Int32} (a : PrV M b l) : PrV (mU (mU (mU M (b + 1) (upd (M (b + 1)) l.length x)) (b + 2) (upd (M (b + 2)) l.length y)) b (upd (M b) 2 (nI (l.length + 1)))) b (l ++ [(x, y)]) := by
  refine ⟨by rw [mU_eq, List.length_append]; rfl, fun i hi => ?_⟩
  rw [List.length_append] at hi
  have hi : i < l.length + 1 := hi
  rw [mU_ne (by omega), mU_ne (by omega), mU_eq, mU_ne (by omega), mU_eq]
  by_cases e : i = l.length
  · subst e
    rw [pG_a2]
    exact ⟨if_pos rfl, if_pos rfl⟩
  · rw [pG_a1 (by omega)]
    exact ⟨(if_neg e).trans (a.2 i (by omega)).1, (if_neg e).trans (a.2 i (by omega)).2⟩
theorem GmV.add {M : Mem} {b : Nat} {l : PL} {x y : Int32} (a : GmV M b l) : GmV (mU (mU (mU M (b + 1) (upd (M (b + 1)) l.length x)) (b + 2) (upd (M (b + 2)) l.length y)) b (upd (M b) 2 (nI (l.length + 1)))) b (l ++ [(x, if x = nI 2 then y else nI 0)]) := by
  refine ⟨by rw [mU_eq, List.length_append]; rfl, fun i hi => ?_⟩
  rw [List.length_append] at hi
  have hi : i < l.length + 1 := hi
  rw [mU_ne (by omega), mU_ne (by omega), mU_eq, mU_ne (by omega), mU_eq]
  by_cases e : i = l.length
  · subst e
    rw [pG_a2]
    exact ⟨if_pos rfl, fun z => (if_pos rfl).trans (if_pos (show x = nI 2 from z)).symm⟩
  · rw [pG_a1 (by omega)]
    exact ⟨(if_neg e).trans (a.2 i (by omega)).1, fun z => (if_neg e).trans ((a.2 i (by omega)).2 z)⟩
theorem ZP.add {M : Mem} {b n k : Nat} {x y : Int32} (z : ZP M b n) (hk : k < n) {f : Nat → Int32} : ZP (mU (mU (mU M (b + 1) (upd (M (b + 1)) k x)) (b + 2) (upd (M (b + 2)) k y)) b f) b n := fun i hi => by
  rw [mU_ne (by omega), mU_ne (by omega), mU_eq, mU_ne (by omega), mU_eq]
  exact ⟨(if_neg (by omega)).trans (z i hi).1, (if_neg (by omega)).trans (z i hi).2⟩
theorem ZP.u0 {M : Mem} {b n : Nat} (z : ZP M b n) {f : Nat → Int32} : ZP (mU M b f) b n := fun i hi => by
  rw [mU_ne (by omega), mU_ne (by omega)]
  exact z i hi
section U30
variable {σ : SG} {h g : hp_T} {M M1 : Mem} {V : VT} {B B0 : Nat}
theorem CRep.setS (R : CRep σ h M) {a b c : PL} (k : ∀ q, (q < 32 ∨ 40 < q) → M1 q = M q) (ha : PrV M1 32 a) (hb : GmV M1 35 b) (hc : PrV M1 38 c) (za : ZP M1 32 6) (zb : ZP M1 35 10) (zc : ZP M1 38 8) : CRep ((σ.1.1, σ.1.2.1, a, b, c), σ.2) h M1 ∧ FR h M h M1 := by
  have v : Sv M1 25 = Sv M 25 := Sv_same fun f hf => k (25 + f) (by omega)
  have i1 := R.kI (g := h) (M1 := M1) rfl (by rw [k 23 (by omega)]) (fun q h1 h2 => k q (by omega)) (fun q h1 h2 => k q (by omega))
  exact ⟨⟨R.C, ⟨v.trans R.v, R.e11, ha, hb, hc⟩, ⟨by rw [v]; exact R.hy.1, za, zb, zc⟩, i1.1, i1.2, R.kZ (fun q h1 h2 => k q (by omega)), R.kE (by rw [k 23 (by omega)]) (fun q h1 => k q (by omega)), R.kX (by rw [k 65 (by omega)]) (k 66 (by omega)), R.kB (by rw [k 68 (by omega)]) (k 69 (by omega)), R.kP (k 71 (by omega)) (k 72 (by omega))⟩, FR.m fun b h1 h2 => k b (by omega)⟩
theorem CRep.se0 (R : CRep σ h M) : CRep (setSe σ []) h (mU M 32 (upd (M 32) 2 (nI 0))) ∧ FR h M h (mU M 32 (upd (M 32) 2 (nI 0))) :=
  R.setS (fun q hq => mU_ne (by omega)) ⟨by rw [mU_eq]; rfl, fun i hi => absurd hi (Nat.not_lt_zero _)⟩ (R.ga.kept fun q h1 h2 => mU_ne (by omega)) (R.bo.kept fun q h1 h2 => mU_ne (by omega)) R.hy.2.1.u0 (R.hy.2.2.1.kept fun q h1 h2 => mU_ne (by omega)) (R.hy.2.2.2.kept fun q h1 h2 => mU_ne (by omega))
theorem CRep.ga0 (R : CRep σ h M) : CRep (setGa σ []) h (mU M 35 (upd (M 35) 2 (nI 0))) ∧ FR h M h (mU M 35 (upd (M 35) 2 (nI 0))) :=
  R.setS (fun q hq => mU_ne (by omega)) (R.se.kept fun q h1 h2 => mU_ne (by omega)) ⟨by rw [mU_eq]; rfl, fun i hi => absurd hi (Nat.not_lt_zero _)⟩ (R.bo.kept fun q h1 h2 => mU_ne (by omega)) (R.hy.2.1.kept fun q h1 h2 => mU_ne (by omega)) R.hy.2.2.1.u0 (R.hy.2.2.2.kept fun q h1 h2 => mU_ne (by omega))
theorem CRep.bo0 (R : CRep σ h M) : CRep (setBo σ []) h (mU M 38 (upd (M 38) 2 (nI 0))) ∧ FR h M h (mU M 38 (upd (M 38) 2 (nI 0))) :=
  R.setS (fun q hq => mU_ne (by omega)) (R.se.kept fun q h1 h2 => mU_ne (by omega)) (R.ga.kept fun q h1 h2 => mU_ne (by omega)) ⟨by rw [mU_eq]; rfl, fun i hi => absurd hi (Nat.not_lt_zero _)⟩ (R.hy.2.1.kept fun q h1 h2 => mU_ne (by omega)) (R.hy.2.2.1.kept fun q h1 h2 => mU_ne (by omega)) R.hy.2.2.2.u0
theorem ad_ne {f1 f2 f3 : Nat → Int32} {b q : Nat} (h : q < b ∨ b + 2 < q) : mU (mU (mU M (b + 1) f1) (b + 2) f2) b f3 q = M q := by
  rw [mU_ne (by omega), mU_ne (by omega), mU_ne (by omega)]
theorem CRep.se1 (R : CRep σ h M) {x y : Int32} (hl : (sSe σ).length ≤ 6) : (addF M 32 6 x y).1 = (if 6 ≤ (sSe σ).length then -4 else nI ((sSe σ).length + 1)) ∧ CRep (if 6 ≤ (sSe σ).length then σ else setSe σ (sSe σ ++ [(x, y)])) h (addF M 32 6 x y).2 ∧ FR h M h (addF M 32 6 x y).2 := by
  by_cases c : 6 ≤ (sSe σ).length
  · rw [if_pos c, if_pos c, add_ge R.se.1 c (by omega)]
    exact ⟨rfl, R, FR.rf⟩
  · rw [if_neg c, if_neg c, add_lt R.se.1 (by omega) (by omega)]
    exact ⟨rfl, R.setS (fun q hq => ad_ne (by omega)) R.se.add (R.ga.kept fun q h1 h2 => ad_ne (by omega)) (R.bo.kept fun q h1 h2 => ad_ne (by omega)) (R.hy.2.1.add (by omega)) (R.hy.2.2.1.kept fun q h1 h2 => ad_ne (by omega)) (R.hy.2.2.2.kept fun q h1 h2 => ad_ne (by omega))⟩
theorem CRep.ga1 (R : CRep σ h M) {x y : Int32} (hl : (sGa σ).length ≤ 10) : (addF M 35 10 x y).1 = (if 10 ≤ (sGa σ).length then -4 else nI ((sGa σ).length + 1)) ∧ CRep (if 10 ≤ (sGa σ).length then σ else setGa σ (sGa σ ++ [(x, if x = nI 2 then y else nI 0)])) h (addF M 35 10 x y).2 ∧ FR h M h (addF M 35 10 x y).2 := by
  by_cases c : 10 ≤ (sGa σ).length
  · rw [if_pos c, if_pos c, add_ge R.ga.1 c (by omega)]
    exact ⟨rfl, R, FR.rf⟩
  · rw [if_neg c, if_neg c, add_lt R.ga.1 (by omega) (by omega)]
    exact ⟨rfl, R.setS (fun q hq => ad_ne (by omega)) (R.se.kept fun q h1 h2 => ad_ne (by omega)) R.ga.add (R.bo.kept fun q h1 h2 => ad_ne (by omega)) (R.hy.2.1.kept fun q h1 h2 => ad_ne (by omega)) (R.hy.2.2.1.add (by omega)) (R.hy.2.2.2.kept fun q h1 h2 => ad_ne (by omega))⟩
theorem CRep.bo1 (R : CRep σ h M) {x y : Int32} (hl : (sBo σ).length ≤ 8) : (addF M 38 8 x y).1 = (if 8 ≤ (sBo σ).length then -4 else nI ((sBo σ).length + 1)) ∧ CRep (if 8 ≤ (sBo σ).length then σ else setBo σ (sBo σ ++ [(x, y)])) h (addF M 38 8 x y).2 ∧ FR h M h (addF M 38 8 x y).2 := by
  by_cases c : 8 ≤ (sBo σ).length
  · rw [if_pos c, if_pos c, add_ge R.bo.1 c (by omega)]
    exact ⟨rfl, R, FR.rf⟩
  · rw [if_neg c, if_neg c, add_lt R.bo.1 (by omega) (by omega)]
    exact ⟨rfl, R.setS (fun q hq => ad_ne (by omega)) (R.se.kept fun q h1 h2 => ad_ne (by omega)) (R.ga.kept fun q h1 h2 => ad_ne (by omega)) R.bo.add (R.hy.2.1.kept fun q h1 h2 => ad_ne (by omega)) (R.hy.2.2.1.kept fun q h1 h2 => ad_ne (by omega)) (R.hy.2.2.2.add (by omega))⟩
theorem OK.bk (O : OK B0 σ) : (sBo σ).length ≤ 8 ∧ ∀ i, i < (sBo σ).length → ∃ p n, p < vP (sV σ) ∧ n ≤ 9999 ∧ pG (sBo σ) i = (nI p, nI n) := O.1.2.2.2.2
end U30
set_option maxRecDepth 10000 in
set_option maxHeartbeats 4000000 in
theorem k_see : ∀ (d : Nat) (p n : Int32) {σ : SG} {h : hp_T} {M : Mem} {B0 : Nat} (R : CRep σ h M) (O : OK B0 σ), Ex (d + 8) nX7_see [.ref 23, .int p, .int n] (wi h M) 0 0 (QC (f_see σ p n) h M) := by
  intro d p n σ h M B0 R O
  have C := R.C
  refine Ex.of mm_X7_see (Nat.le_of_ble_eq_true rfl) fun w κ X hk hnm => ?_
  refine r_iload_n (pc := 0) X dX7_see_0 rfl ?_
  refine r_iconst (pc := 1) (v := (-1)) X dX7_see_1 (by decide) ?_
  refine r_icmp_ne (pc := 2) X dX7_see_2 (tgt := 16) (by decide) (fun c2 => ?_) (fun c2 => ?_)
  · refine r_aload_n (pc := 16) X dX7_see_16 rfl ?_
    refine r_getr (pc := 17) X dX7_see_17 tf_7_25 rfl (kc_23 C) (rc_23_3 C) ?_
    refine r_iload_n (pc := 20) X dX7_see_20 rfl ?_
    refine r_c0_1P (pc := 21) X rfl dX7_see_21 tc_7_68 mm_X5_has (kc_25 C) rfl rfl (u_has (d + 7) p R) (Nat.le_of_ble_eq_true rfl) ?_
    refine r_if_neB (pc := 24) X dX7_see_24 (tgt := 29) (by decide) (fun c24 => ?_) (fun c24 => ?_)
    · refine r_iload_n (pc := 29) X dX7_see_29 rfl ?_
      refine r_iconst (pc := 30) (v := (nI 0)) X dX7_see_30 (by decide) ?_
      refine r_bipush (pc := 31) (v := (nI 60)) X dX7_see_31 (by decide) ?_
      refine r_c1_3P (pc := 33) X rfl dX7_see_33 tc_7_53 mm_X7_isWithin (e_in (d + 7) n (nI 0) (nI 60)) (Nat.le_of_ble_eq_true rfl) ?_
      refine r_if_neB (pc := 36) X dX7_see_36 (tgt := 42) (by decide) (fun c36 => ?_) (fun c36 => ?_)
      · refine r_aload_n (pc := 42) X dX7_see_42 rfl ?_
        refine r_getr (pc := 43) X dX7_see_43 tf_7_12 rfl (kc_23 C) (rc_23_0 C) ?_
        refine r_getr (pc := 46) X dX7_see_46 tf_7_173 rfl (kc_24 C) (rc_24_1 C) ?_
        refine r_iload_n (pc := 49) X dX7_see_49 rfl ?_
        refine r_iload_n (pc := 50) X dX7_see_50 rfl ?_
        refine r_c0_2IW (pc := 51) X rfl dX7_see_51 tc_7_182 mm_X2_add (kc_32 C) rfl rfl (e_add (d + 7) p n (pr_32 C) R.se.1 O.sn.1 (by omega)) (Nat.le_of_ble_eq_true rfl) (fun r51 M51 q51 => ?_)
        refine r_iret (pc := 54) X dX7_see_54 rfl rfl ?_
        obtain ⟨rfl, rfl⟩ := q51
        obtain ⟨e1, q1, q2⟩ := R.se1 (x := p) (y := n) O.sn.1
        rw [e1]
        refine ⟨QC.mk ?_ q1 q2, rfl⟩
        simp (decide := true) only [f_see, c2, c24, c36, if_true, if_false, Bool.true_and, Bool.false_and, Bool.not_true, Bool.not_false, decide_true, decide_false, Bool.true_or, Bool.false_or, Bool.or_true]
        split <;> rfl
      · refine r_bipush (pc := 39) (v := (-2)) X dX7_see_39 (by decide) ?_
        refine r_iret (pc := 41) X dX7_see_41 rfl rfl ?_
        refine ⟨QC.mk (σ1 := σ) ?_ R FR.rf, rfl⟩
        simp (decide := true) [f_see, c2, c24, c36]
    · refine r_iconst (pc := 27) (v := (-1)) X dX7_see_27 (by decide) ?_
      refine r_iret (pc := 28) X dX7_see_28 rfl rfl ?_
      refine ⟨QC.mk (σ1 := σ) ?_ R FR.rf, rfl⟩
      simp (decide := true) [f_see, c2, c24]
  · refine r_aload_n (pc := 5) X dX7_see_5 rfl ?_
    refine r_getr (pc := 6) X dX7_see_6 tf_7_12 rfl (kc_23 C) (rc_23_0 C) ?_
    refine r_getr (pc := 9) X dX7_see_9 tf_7_173 rfl (kc_24 C) (rc_24_1 C) ?_
    refine r_c0_0IW (pc := 12) X rfl dX7_see_12 tc_7_177 mm_X2_empty (kc_32 C) rfl rfl (e_empty (d + 7) (pr_32 C)) (Nat.le_of_ble_eq_true rfl) (fun r12 M12 q12 => ?_)
    refine r_iret (pc := 15) X dX7_see_15 rfl rfl ?_
    obtain ⟨rfl, rfl⟩ := q12
    refine ⟨QC.mk ?_ R.se0.1 R.se0.2, rfl⟩
    simp (decide := true) [f_see, c2]
set_option maxRecDepth 10000 in
set_option maxHeartbeats 4000000 in
theorem k_game : ∀ (d : Nat) (x p : Int32) {σ : SG} {h : hp_T} {M : Mem} {B0 : Nat} (R : CRep σ h M) (O : OK B0 σ), Ex (d + 8) nX7_game [.ref 23, .int x, .int p] (wi h M) 0 0 (QC (f_game σ x p) h M) := by
  intro d x p σ h M B0 R O
  have C := R.C
  refine Ex.of mm_X7_game (Nat.le_of_ble_eq_true rfl) fun w κ X hk hnm => ?_
  refine r_iload_n (pc := 0) X dX7_game_0 rfl ?_
  refine r_iconst (pc := 1) (v := (-1)) X dX7_game_1 (by decide) ?_
  refine r_icmp_ne (pc := 2) X dX7_game_2 (tgt := 16) (by decide) (fun c2 => ?_) (fun c2 => ?_)
  · refine r_iload_n (pc := 16) X dX7_game_16 rfl ?_
    refine r_iconst (pc := 17) (v := (nI 0)) X dX7_game_17 (by decide) ?_
    refine r_iconst (pc := 18) (v := (nI 2)) X dX7_game_18 (by decide) ?_
    refine r_c1_3P (pc := 19) X rfl dX7_game_19 tc_7_53 mm_X7_isWithin (e_in (d + 7) x (nI 0) (nI 2)) (Nat.le_of_ble_eq_true rfl) ?_
    refine r_if_eqB (pc := 22) X dX7_game_22 (tgt := 41) (by decide) (fun c22 => ?_) (fun c22 => ?_)
    · refine r_iconst (pc := 41) (v := (-1)) X dX7_game_41 (by decide) ?_
      refine r_iret (pc := 42) X dX7_game_42 rfl rfl ?_
      refine ⟨QC.mk (σ1 := σ) ?_ R FR.rf, rfl⟩
      simp (decide := true) [f_game, c2, c22]
    · refine r_iload_n (pc := 25) X dX7_game_25 rfl ?_
      refine r_iconst (pc := 26) (v := (nI 2)) X dX7_game_26 (by decide) ?_
      refine r_icmp_ne (pc := 27) X dX7_game_27 (tgt := 43) (by decide) (fun c27 => ?_) (fun c27 => ?_)
      · refine r_aload_n (pc := 43) X dX7_game_43 rfl ?_
        refine r_getr (pc := 44) X dX7_game_44 tf_7_12 rfl (kc_23 C) (rc_23_0 C) ?_
        refine r_getr (pc := 47) X dX7_game_47 tf_7_198 rfl (kc_24 C) (rc_24_2 C) ?_
        refine r_iload_n (pc := 50) X dX7_game_50 rfl ?_
        refine r_iload_n (pc := 51) X dX7_game_51 rfl ?_
        refine r_c0_2IW (pc := 52) X rfl dX7_game_52 tc_7_182 mm_X2_add (kc_35 C) rfl rfl (e_add (d + 7) x p (pr_35 C) R.ga.1 O.gm.1 (by omega)) (Nat.le_of_ble_eq_true rfl) (fun r52 M52 q52 => ?_)
        refine r_iret (pc := 55) X dX7_game_55 rfl rfl ?_
        obtain ⟨rfl, rfl⟩ := q52
        obtain ⟨e1, q1, q2⟩ := R.ga1 (x := x) (y := p) O.gm.1
        rw [e1]
        refine ⟨QC.mk ?_ q1 q2, rfl⟩
        simp (decide := true) only [f_game, c2, c22, c27, if_true, if_false, Bool.true_and, Bool.false_and, Bool.not_true, Bool.not_false, decide_true, decide_false, Bool.true_or, Bool.false_or, Bool.or_true]
        split <;> rfl
      · refine r_aload_n (pc := 30) X dX7_game_30 rfl ?_
        refine r_getr (pc := 31) X dX7_game_31 tf_7_25 rfl (kc_23 C) (rc_23_3 C) ?_
        refine r_iload_n (pc := 34) X dX7_game_34 rfl ?_
        refine r_c0_1P (pc := 35) X rfl dX7_game_35 tc_7_68 mm_X5_has (kc_25 C) rfl rfl (u_has (d + 7) p R) (Nat.le_of_ble_eq_true rfl) ?_
        refine r_if_neB (pc := 38) X dX7_game_38 (tgt := 43) (by decide) (fun c38 => ?_) (fun c38 => ?_)
        · refine r_aload_n (pc := 43) X dX7_game_43 rfl ?_
          refine r_getr (pc := 44) X dX7_game_44 tf_7_12 rfl (kc_23 C) (rc_23_0 C) ?_
          refine r_getr (pc := 47) X dX7_game_47 tf_7_198 rfl (kc_24 C) (rc_24_2 C) ?_
          refine r_iload_n (pc := 50) X dX7_game_50 rfl ?_
          refine r_iload_n (pc := 51) X dX7_game_51 rfl ?_
          refine r_c0_2IW (pc := 52) X rfl dX7_game_52 tc_7_182 mm_X2_add (kc_35 C) rfl rfl (e_add (d + 7) x p (pr_35 C) R.ga.1 O.gm.1 (by omega)) (Nat.le_of_ble_eq_true rfl) (fun r52 M52 q52 => ?_)
          refine r_iret (pc := 55) X dX7_game_55 rfl rfl ?_
          obtain ⟨rfl, rfl⟩ := q52
          obtain ⟨e1, q1, q2⟩ := R.ga1 (x := x) (y := p) O.gm.1
          rw [e1]
          refine ⟨QC.mk ?_ q1 q2, rfl⟩
          simp (decide := true) only [f_game, c2, c22, c27, c38, if_true, if_false, Bool.true_and, Bool.false_and, Bool.not_true, Bool.not_false, decide_true, decide_false, Bool.true_or, Bool.false_or, Bool.or_true]
          split <;> rfl
        · refine r_iconst (pc := 41) (v := (-1)) X dX7_game_41 (by decide) ?_
          refine r_iret (pc := 42) X dX7_game_42 rfl rfl ?_
          refine ⟨QC.mk (σ1 := σ) ?_ R FR.rf, rfl⟩
          simp (decide := true) [f_game, c2, c22, c27, c38]
  · refine r_aload_n (pc := 5) X dX7_game_5 rfl ?_
    refine r_getr (pc := 6) X dX7_game_6 tf_7_12 rfl (kc_23 C) (rc_23_0 C) ?_
    refine r_getr (pc := 9) X dX7_game_9 tf_7_198 rfl (kc_24 C) (rc_24_2 C) ?_
    refine r_c0_0IW (pc := 12) X rfl dX7_game_12 tc_7_177 mm_X2_empty (kc_35 C) rfl rfl (e_empty (d + 7) (pr_35 C)) (Nat.le_of_ble_eq_true rfl) (fun r12 M12 q12 => ?_)
    refine r_iret (pc := 15) X dX7_game_15 rfl rfl ?_
    obtain ⟨rfl, rfl⟩ := q12
    refine ⟨QC.mk ?_ R.ga0.1 R.ga0.2, rfl⟩
    simp (decide := true) [f_game, c2]
set_option maxRecDepth 10000 in
set_option maxHeartbeats 4000000 in
theorem k_book : ∀ (d : Nat) (p n : Int32) {σ : SG} {h : hp_T} {M : Mem} {B0 : Nat} (R : CRep σ h M) (O : OK B0 σ), Ex (d + 8) nX7_book [.ref 23, .int p, .int n] (wi h M) 0 0 (QC (f_book σ p n) h M) := by
  intro d p n σ h M B0 R O
  have C := R.C
  refine Ex.of mm_X7_book (Nat.le_of_ble_eq_true rfl) fun w κ X hk hnm => ?_
  refine r_iload_n (pc := 0) X dX7_book_0 rfl ?_
  refine r_iconst (pc := 1) (v := (-1)) X dX7_book_1 (by decide) ?_
  refine r_icmp_ne (pc := 2) X dX7_book_2 (tgt := 16) (by decide) (fun c2 => ?_) (fun c2 => ?_)
  · refine r_aload_n (pc := 16) X dX7_book_16 rfl ?_
    refine r_getr (pc := 17) X dX7_book_17 tf_7_25 rfl (kc_23 C) (rc_23_3 C) ?_
    refine r_iload_n (pc := 20) X dX7_book_20 rfl ?_
    refine r_c0_1P (pc := 21) X rfl dX7_book_21 tc_7_68 mm_X5_has (kc_25 C) rfl rfl (u_has (d + 7) p R) (Nat.le_of_ble_eq_true rfl) ?_
    refine r_if_neB (pc := 24) X dX7_book_24 (tgt := 29) (by decide) (fun c24 => ?_) (fun c24 => ?_)
    · refine r_iload_n (pc := 29) X dX7_book_29 rfl ?_
      refine r_iconst (pc := 30) (v := (nI 0)) X dX7_book_30 (by decide) ?_
      refine r_sipush (pc := 31) (v := (nI 9999)) X dX7_book_31 (by decide) ?_
      refine r_c1_3P (pc := 34) X rfl dX7_book_34 tc_7_53 mm_X7_isWithin (e_in (d + 7) n (nI 0) (nI 9999)) (Nat.le_of_ble_eq_true rfl) ?_
      refine r_if_neB (pc := 37) X dX7_book_37 (tgt := 43) (by decide) (fun c37 => ?_) (fun c37 => ?_)
      · refine r_aload_n (pc := 43) X dX7_book_43 rfl ?_
        refine r_getr (pc := 44) X dX7_book_44 tf_7_12 rfl (kc_23 C) (rc_23_0 C) ?_
        refine r_getr (pc := 47) X dX7_book_47 tf_7_214 rfl (kc_24 C) (rc_24_3 C) ?_
        refine r_iload_n (pc := 50) X dX7_book_50 rfl ?_
        refine r_iload_n (pc := 51) X dX7_book_51 rfl ?_
        refine r_c0_2IW (pc := 52) X rfl dX7_book_52 tc_7_182 mm_X2_add (kc_38 C) rfl rfl (e_add (d + 7) p n (pr_38 C) R.bo.1 O.bk.1 (by omega)) (Nat.le_of_ble_eq_true rfl) (fun r52 M52 q52 => ?_)
        refine r_iret (pc := 55) X dX7_book_55 rfl rfl ?_
        obtain ⟨rfl, rfl⟩ := q52
        obtain ⟨e1, q1, q2⟩ := R.bo1 (x := p) (y := n) O.bk.1
        rw [e1]
        refine ⟨QC.mk ?_ q1 q2, rfl⟩
        simp (decide := true) only [f_book, c2, c24, c37, if_true, if_false, Bool.true_and, Bool.false_and, Bool.not_true, Bool.not_false, decide_true, decide_false, Bool.true_or, Bool.false_or, Bool.or_true]
        split <;> rfl
      · refine r_bipush (pc := 40) (v := (-2)) X dX7_book_40 (by decide) ?_
        refine r_iret (pc := 42) X dX7_book_42 rfl rfl ?_
        refine ⟨QC.mk (σ1 := σ) ?_ R FR.rf, rfl⟩
        simp (decide := true) [f_book, c2, c24, c37]
    · refine r_iconst (pc := 27) (v := (-1)) X dX7_book_27 (by decide) ?_
      refine r_iret (pc := 28) X dX7_book_28 rfl rfl ?_
      refine ⟨QC.mk (σ1 := σ) ?_ R FR.rf, rfl⟩
      simp (decide := true) [f_book, c2, c24]
  · refine r_aload_n (pc := 5) X dX7_book_5 rfl ?_
    refine r_getr (pc := 6) X dX7_book_6 tf_7_12 rfl (kc_23 C) (rc_23_0 C) ?_
    refine r_getr (pc := 9) X dX7_book_9 tf_7_214 rfl (kc_24 C) (rc_24_3 C) ?_
    refine r_c0_0IW (pc := 12) X rfl dX7_book_12 tc_7_177 mm_X2_empty (kc_38 C) rfl rfl (e_empty (d + 7) (pr_38 C)) (Nat.le_of_ble_eq_true rfl) (fun r12 M12 q12 => ?_)
    refine r_iret (pc := 15) X dX7_book_15 rfl rfl ?_
    obtain ⟨rfl, rfl⟩ := q12
    refine ⟨QC.mk ?_ R.bo0.1 R.bo0.2, rfl⟩
    simp (decide := true) [f_book, c2]
set_option maxRecDepth 10000 in
set_option maxHeartbeats 4000000 in
theorem l_looked : ∀ (d : Nat) {σ : SG} {h : hp_T} {M : Mem} {B0 : Nat} (R : CRep σ h M) (O : OK B0 σ) {w : wc_T} {κ : cx_T} {Φ : Option Value → hp_T → Prop} (X : CX w κ (d + 8) 7 cX7_looked 3 (some .int) Φ) {rr : Int32}
    (hΦ : Φ (some (.int rr)) (wi h M)), ∀ (m k : Nat) (z : Option Value), k + m = (sBo σ).length → lkF (sV σ) (sBo σ) m k = rr → GG w κ 2 [some (.ref 23), some (.int (nI k)), z] [] (wi h M) := by
  intro d σ h M B0 R O w κ Φ X rr hΦ m
  have C := R.C
  have bo := R.bo
  have bk := O.bk
  induction m with
  | zero =>
    intro k z hk hA
    have e : k = (sBo σ).length := by omega
    subst e
    subst hA
    refine r_iload_n (pc := 2) X dX7_looked_2 rfl ?_
    refine r_aload_n (pc := 3) X dX7_looked_3 rfl ?_
    refine r_getr (pc := 4) X dX7_looked_4 tf_7_12 rfl (kc_23 C) (rc_23_0 C) ?_
    refine r_getr (pc := 7) X dX7_looked_7 tf_7_214 rfl (kc_24 C) (rc_24_3 C) ?_
    refine r_getiW (pc := 10) X dX7_looked_10 tf_7_201 rfl (kc_38 C) bo.1 ?_
    refine r_icmp_geN (pc := 13) X dX7_looked_13 (tgt := 72) (by decide) (by omega) (by omega) (fun c13 => ?_) (fun c13 => ?_)
    · refine r_bipush (pc := 72) (v := (-5)) X dX7_looked_72 (by decide) ?_
      refine r_iret (pc := 74) X dX7_looked_74 rfl rfl ?_
      exact hΦ
    · exact absurd (Nat.le_refl _) c13
  | succ m ih =>
    intro k z hk hA
    have hkl : k < (sBo σ).length := by omega
    obtain ⟨p, n, hp, hn, e⟩ := bk.2 k hkl
    have h6 := O.w.2.1
    have eL : M 39 k = nI p := by rw [(bo.2 k hkl).1, e]
    have eR : M 40 k = nI n := by rw [(bo.2 k hkl).2, e]
    have ec : sV σ 5 (pG (sBo σ) k).1.toNatClampNeg = sV σ 5 p := by rw [e, nI_clamp (by omega)]
    have ed : (pG (sBo σ) k).2 = nI n := by rw [e]
    refine r_iload_n (pc := 2) X dX7_looked_2 rfl ?_
    refine r_aload_n (pc := 3) X dX7_looked_3 rfl ?_
    refine r_getr (pc := 4) X dX7_looked_4 tf_7_12 rfl (kc_23 C) (rc_23_0 C) ?_
    refine r_getr (pc := 7) X dX7_looked_7 tf_7_214 rfl (kc_24 C) (rc_24_3 C) ?_
    refine r_getiW (pc := 10) X dX7_looked_10 tf_7_201 rfl (kc_38 C) bo.1 ?_
    refine r_icmp_geN (pc := 13) X dX7_looked_13 (tgt := 72) (by decide) (by omega) (by omega) (fun c13 => ?_) (fun c13 => ?_)
    · exact absurd c13 (by omega)
    · refine r_aload_n (pc := 16) X dX7_looked_16 rfl ?_
      refine r_getr (pc := 17) X dX7_looked_17 tf_7_12 rfl (kc_23 C) (rc_23_0 C) ?_
      refine r_getr (pc := 20) X dX7_looked_20 tf_7_214 rfl (kc_24 C) (rc_24_3 C) ?_
      refine r_getr (pc := 23) X dX7_looked_23 tf_7_204 rfl (kc_38 C) (rc_38_0 C) ?_
      refine r_iload_n (pc := 26) X dX7_looked_26 rfl ?_
      refine r_ialdW (pc := 27) X dX7_looked_27 (kc_39 C) rfl (show k < 8 by have := bk.1; omega) (by omega) eL ?_
      refine r_istore_n (pc := 28) X dX7_looked_28 (Nat.le_of_ble_eq_true rfl) ?_
      refine r_aload_n (pc := 29) X dX7_looked_29 rfl ?_
      refine r_getr (pc := 30) X dX7_looked_30 tf_7_25 rfl (kc_23 C) (rc_23_3 C) ?_
      refine r_iload_n (pc := 33) X dX7_looked_33 rfl ?_
      refine r_c0_1P (pc := 34) X rfl dX7_looked_34 tc_7_68 mm_X5_has (kc_25 C) rfl rfl (u_has (d + 7) (nI p) R) (Nat.le_of_ble_eq_true rfl) ?_
      refine r_if_eqB (pc := 37) X dX7_looked_37 (tgt := 64) (by decide) (fun c37 => ?_) (fun c37 => ?_)
      · exact absurd (c37.symm.trans (has_of O.w hp)) (by decide)
      · refine r_aload_n (pc := 40) X dX7_looked_40 rfl ?_
        refine r_getr (pc := 41) X dX7_looked_41 tf_7_25 rfl (kc_23 C) (rc_23_3 C) ?_
        refine r_getr (pc := 44) X dX7_looked_44 tf_7_84 rfl (kc_25 C) (rc_25_4 C) ?_
        refine r_iload_n (pc := 47) X dX7_looked_47 rfl ?_
        refine r_ialdW (pc := 48) X dX7_looked_48 (kc_30 C) rfl (by omega) (by omega) (R.a5 p) ?_
        refine r_aload_n (pc := 49) X dX7_looked_49 rfl ?_
        refine r_getr (pc := 50) X dX7_looked_50 tf_7_12 rfl (kc_23 C) (rc_23_0 C) ?_
        refine r_getr (pc := 53) X dX7_looked_53 tf_7_214 rfl (kc_24 C) (rc_24_3 C) ?_
        refine r_getr (pc := 56) X dX7_looked_56 tf_7_207 rfl (kc_38 C) (rc_38_1 C) ?_
        refine r_iload_n (pc := 59) X dX7_looked_59 rfl ?_
        refine r_ialdW (pc := 60) X dX7_looked_60 (kc_40 C) rfl (show k < 8 by have := bk.1; omega) (by omega) eR ?_
        refine r_icmp_eq (pc := 61) X dX7_looked_61 (tgt := 66) (by decide) (fun c61 => ?_) (fun c61 => ?_)
        · refine r_iinc (pc := 66) X dX7_looked_66 rfl (by first | exact nI_i1 _ | rfl) ?_
          refine r_goto (pc := 69) X dX7_looked_69 (tgt := 2) (by decide) ?_
          exact ih (k + 1) _ (by omega) ((if_pos (by rw [ec, ed]; exact c61)).symm.trans hA)
        · refine r_iload_n (pc := 64) X dX7_looked_64 rfl ?_
          refine r_iret (pc := 65) X dX7_looked_65 rfl rfl ?_
          have e9 : lkF (sV σ) (sBo σ) (m + 1) k = nI k := if_neg (by rw [ec, ed]; exact c61)
          rw [e9] at hA
          subst hA
          exact hΦ
set_option maxRecDepth 10000 in
set_option maxHeartbeats 4000000 in
theorem k_looked : ∀ (d : Nat) {σ : SG} {h : hp_T} {M : Mem} {B0 : Nat} (R : CRep σ h M) (O : OK B0 σ), Ex (d + 8) nX7_looked [.ref 23] (wi h M) 0 0 (QC (f_looked σ) h M) := by
  intro d σ h M B0 R O
  have C := R.C
  refine Ex.of mm_X7_looked (Nat.le_of_ble_eq_true rfl) fun w κ X hk hnm => ?_
  refine r_iconst (pc := 0) (v := (nI 0)) X dX7_looked_0 (by decide) ?_
  refine r_istore_n (pc := 1) X dX7_looked_1 (Nat.le_of_ble_eq_true rfl) ?_
  exact l_looked d R O X ⟨QC.mk rfl R FR.rf, rfl⟩ (sBo σ).length 0 _ (by omega) rfl
section U31
variable {σ : SG} {h g : hp_T} {M M1 : Mem} {V : VT} {B B0 : Nat}
theorem CRep.t1 (R : CRep σ h M) (t : Nat) : M 71 t = (sT σ).1 t := congrFun (congrArg (fun T : TT => T.1) R.tp) t
theorem CRep.t3 (R : CRep σ h M) {t j : Nat} (ht : t ≤ 5) (hj : j < 60) : h_l h (74 + t) j = (sT σ).2.2 t j := by
  have e := congrFun (congrFun (congrArg (fun T : TT => T.2.2) R.tp) t) j
  have e2 : (Tc M (h_l h)).2.2 t j = h_l h (74 + t) j := if_pos ⟨by omega, hj⟩
  exact e2.symm.trans e
theorem u_place (d : Nat) {t : Nat} (i : Int32) (R : CRep σ h M) (ht : t ≤ 5) : Ep d nX6_hasPlace [.ref 70, .int (nI t), .int i] (wi h M) (.int (b2 (placeF (sT σ) t i))) := by
  have := e_t_place d (h := wi h M) i R.C ht
  rw [show Tc (h_i (wi h M)) (h_l (wi h M)) = sT σ from R.tp] at this
  exact this
theorem u_holds (d : Nat) {t : Nat} (R : CRep σ h M) (ht : t ≤ 5) : Ep d nX6_holds [.ref 70, .int (nI t)] (wi h M) (.int (b2 (!decide ((sT σ).1 t = -1)))) := by
  have := e_t_holds d (h := wi h M) R.C ht
  rw [show Tc (h_i (wi h M)) (h_l (wi h M)) = sT σ from R.tp] at this
  exact this
theorem CRep.setT (R : CRep σ h M) {T1 : TT} {L1 : LMem} (p : pT M (h_l h) T1 M1 L1) : CRep (setTp σ T1) (wl h L1) M1 ∧ FR h M (wl h L1) M1 := by
  have k : ∀ q, (q < 71 ∨ 72 < q) → M1 q = M q := fun q hq => p.2.1 q (by omega) (by omega)
  have s1 := R.kS (g := wl h L1) (M1 := M1) rfl (fun q h1 h2 => k q (by omega)) (fun q h1 h2 => k q (by omega))
  have i1 := R.kI (g := wl h L1) (M1 := M1) rfl (by rw [k 23 (by omega)]) (fun q h1 h2 => k q (by omega)) (fun q h1 h2 => k q (by omega))
  refine ⟨⟨R.C, s1.1, s1.2, i1.1, i1.2, R.kZ (fun q h1 h2 => k q (by omega)), ?_, R.kX (by rw [k 65 (by omega)]) (k 66 (by omega)), R.kB (by rw [k 68 (by omega)]) (k 69 (by omega)), p.1⟩, ⟨rfl, fun b h1 h2 => ⟨k b (by omega), p.2.2 b (by omega)⟩⟩⟩
  have e1 := R.kE (M1 := M1) (by rw [k 23 (by omega)]) (fun q h1 => k q (by omega))
  exact e1
theorem CRep.setB (R : CRep σ h M) {l : List Int32} (k : ∀ q, q ≠ 68 → q ≠ 69 → M1 q = M q) (b : BlC l M1) : CRep (setBl σ l) h M1 ∧ FR h M h M1 := by
  have k2 : ∀ q, (q < 68 ∨ 69 < q) → M1 q = M q := fun q hq => k q (by omega) (by omega)
  have s1 := R.kS (g := h) (M1 := M1) rfl (fun q h1 h2 => k2 q (by omega)) (fun q h1 h2 => k2 q (by omega))
  have i1 := R.kI (g := h) (M1 := M1) rfl (by rw [k2 23 (by omega)]) (fun q h1 h2 => k2 q (by omega)) (fun q h1 h2 => k2 q (by omega))
  exact ⟨⟨R.C, s1.1, s1.2, i1.1, i1.2, R.kZ (fun q h1 h2 => k2 q (by omega)), R.kE (by rw [k2 23 (by omega)]) (fun q h1 => k2 q (by omega)), R.kX (by rw [k2 65 (by omega)]) (k2 66 (by omega)), b, R.kP (k2 71 (by omega)) (k2 72 (by omega))⟩, FR.m fun b h1 h2 => k2 b (by omega)⟩
theorem pl_nat {T : TT} {t : Nat} {i : Int32} (hT : WT T) (ht : t ≤ 5) (h : placeF T t i = true) : ∃ j, j < 60 ∧ i = nI j := place_nat hT ht h
end U31
set_option maxRecDepth 10000 in
set_option maxHeartbeats 4000000 in
theorem l_judge : ∀ (d : Nat) {σ : SG} {h : hp_T} {M : Mem} {B0 t P : Nat} {i : Int32} (R : CRep σ h M) (O : OK B0 σ) (ht : t ≤ 5) (hP : vP (sV σ) = P) {w : wc_T} {κ : cx_T} {Φ : Option Value → hp_T → Prop} (X : CX w κ (d + 8) 7 cX7_judge 4 (some .int) Φ) {rr : Int32}
    (hΦ : Φ (some (.int rr)) (wi h M)), ∀ (m k : Nat), k + m = P → juF (sT σ) (sV σ) t i m k = rr → GG w κ 41 [some (.ref 23), some (.int (nI t)), some (.int i), some (.int (nI k))] [] (wi h M) := by
  intro d σ h M B0 t P i R O ht hP w κ Φ X rr hΦ m
  have C := R.C
  have h6 := O.w.2.1
  have hT : WT (sT σ) := O.2.2.2.2.2
  subst hP
  induction m with
  | zero =>
    intro k hk hA
    have e : k = vP (sV σ) := by omega
    subst e
    subst hA
    refine r_iload_n (pc := 41) X dX7_judge_41 rfl ?_
    refine r_aload_n (pc := 42) X dX7_judge_42 rfl ?_
    refine r_getr (pc := 43) X dX7_judge_43 tf_7_25 rfl (kc_23 C) (rc_23_3 C) ?_
    refine r_getiW (pc := 46) X dX7_judge_46 tf_7_160 rfl (kc_25 C) (R.pp O) ?_
    refine r_icmp_geN (pc := 49) X dX7_judge_49 (tgt := 106) (by decide) (by omega) (by omega) (fun c49 => ?_) (fun c49 => ?_)
    · refine r_bipush (pc := 106) (v := (-5)) X dX7_judge_106 (by decide) ?_
      refine r_iret (pc := 108) X dX7_judge_108 rfl rfl ?_
      exact hΦ
    · exact absurd (Nat.le_refl _) c49
  | succ m ih =>
    intro k hk hA
    refine r_iload_n (pc := 41) X dX7_judge_41 rfl ?_
    refine r_aload_n (pc := 42) X dX7_judge_42 rfl ?_
    refine r_getr (pc := 43) X dX7_judge_43 tf_7_25 rfl (kc_23 C) (rc_23_3 C) ?_
    refine r_getiW (pc := 46) X dX7_judge_46 tf_7_160 rfl (kc_25 C) (R.pp O) ?_
    refine r_icmp_geN (pc := 49) X dX7_judge_49 (tgt := 106) (by decide) (by omega) (by omega) (fun c49 => ?_) (fun c49 => ?_)
    · exact absurd c49 (by omega)
    · refine r_aload_n (pc := 52) X dX7_judge_52 rfl ?_
      refine r_getr (pc := 53) X dX7_judge_53 tf_7_49 rfl (kc_23 C) (rc_23_8 C) ?_
      refine r_iload_n (pc := 56) X dX7_judge_56 rfl ?_
      refine r_iload_n (pc := 57) X dX7_judge_57 rfl ?_
      refine r_iload_n (pc := 58) X dX7_judge_58 rfl ?_
      refine r_iadd (pc := 59) X dX7_judge_59 ?_
      refine r_c0_2P (pc := 60) X rfl dX7_judge_60 tc_7_224 mm_X6_hasPlace (kc_70 C) rfl rfl (u_place (d + 7) (i + nI k) R ht) (Nat.le_of_ble_eq_true rfl) ?_
      refine r_if_neB (pc := 63) X dX7_judge_63 (tgt := 71) (by decide) (fun c63 => ?_) (fun c63 => ?_)
      · obtain ⟨j, hj, ej⟩ := pl_nat hT ht c63
        have ec : (sT σ).2.2 t (i + nI k).toNatClampNeg = (sT σ).2.2 t j := by rw [ej, nI_clamp (by omega)]
        refine r_aload_n (pc := 71) X dX7_judge_71 rfl ?_
        refine r_getr (pc := 72) X dX7_judge_72 tf_7_49 rfl (kc_23 C) (rc_23_8 C) ?_
        refine r_getr (pc := 75) X dX7_judge_75 tf_7_228 rfl (kc_70 C) (rc_70_2 C) ?_
        refine r_iload_n (pc := 78) X dX7_judge_78 rfl ?_
        refine r_aald (pc := 79) X dX7_judge_79 (kc_73 C) rfl (show t < 6 by omega) (by omega) (rc_row C ht) (by omega) ?_
        refine r_iload_n (pc := 80) X dX7_judge_80 rfl ?_
        refine r_iload_n (pc := 81) X dX7_judge_81 rfl ?_
        refine r_iadd (pc := 82) X dX7_judge_82 ?_
        refine r_lald (pc := 83) X dX7_judge_83 (kc_row C ht) ej hj (by omega) (R.t3 ht hj) ?_
        refine r_aload_n (pc := 84) X dX7_judge_84 rfl ?_
        refine r_getr (pc := 85) X dX7_judge_85 tf_7_25 rfl (kc_23 C) (rc_23_3 C) ?_
        refine r_getr (pc := 88) X dX7_judge_88 tf_7_81 rfl (kc_25 C) (rc_25_3 C) ?_
        refine r_iload_n (pc := 91) X dX7_judge_91 rfl ?_
        refine r_ialdW (pc := 92) X dX7_judge_92 (kc_29 C) rfl (by omega) (by omega) (R.a4 k) ?_
        refine r_i2l (pc := 93) X dX7_judge_93 rfl ?_
        refine r_lcmp (pc := 94) X dX7_judge_94 ?_
        refine r_if_eq (pc := 95) X dX7_judge_95 (tgt := 100) (by decide) (fun c95 => ?_) (fun c95 => ?_)
        · refine r_iinc (pc := 100) X dX7_judge_100 rfl (by first | exact nI_i1 _ | rfl) ?_
          refine r_goto (pc := 103) X dX7_judge_103 (tgt := 41) (by decide) ?_
          exact ih (k + 1) (by omega) (((if_pos c63).trans (if_pos (ec.trans (lg_eq0.mp c95)))).symm.trans hA)
        · refine r_iload_n (pc := 98) X dX7_judge_98 rfl ?_
          refine r_iret (pc := 99) X dX7_judge_99 rfl rfl ?_
          have e9 : juF (sT σ) (sV σ) t i (m + 1) k = nI k := (if_pos c63).trans (if_neg (fun z => c95 (lg_eq0.mpr (ec.symm.trans z))))
          rw [e9] at hA
          subst hA
          exact hΦ
      · refine r_bipush (pc := 66) (v := (nI 100)) X dX7_judge_66 (by decide) ?_
        refine r_iload_n (pc := 68) X dX7_judge_68 rfl ?_
        refine r_iadd (pc := 69) X dX7_judge_69 ?_
        refine r_iret (pc := 70) X dX7_judge_70 rfl rfl ?_
        have e9 : juF (sT σ) (sV σ) t i (m + 1) k = nI 100 + nI k := if_neg (nt_f c63)
        rw [e9] at hA
        subst hA
        exact hΦ
set_option maxRecDepth 10000 in
set_option maxHeartbeats 4000000 in
theorem k_judge : ∀ (d : Nat) (t i : Int32) {σ : SG} {h : hp_T} {M : Mem} {B0 : Nat} (R : CRep σ h M) (O : OK B0 σ), Ex (d + 8) nX7_judge [.ref 23, .int t, .int i] (wi h M) 0 0 (QC (f_judge σ t i) h M) := by
  intro d t i σ h M B0 R O
  have C := R.C
  refine Ex.of mm_X7_judge (Nat.le_of_ble_eq_true rfl) fun w κ X hk hnm => ?_
  refine r_aload_n (pc := 0) X dX7_judge_0 rfl ?_
  refine r_getr (pc := 1) X dX7_judge_1 tf_7_49 rfl (kc_23 C) (rc_23_8 C) ?_
  refine r_iload_n (pc := 4) X dX7_judge_4 rfl ?_
  refine r_c0_1P (pc := 5) X rfl dX7_judge_5 tc_7_217 mm_X6_has (kc_70 C) rfl rfl (e_t_has (d + 6) t) (Nat.le_of_ble_eq_true rfl) ?_
  refine r_if_neB (pc := 8) X dX7_judge_8 (tgt := 13) (by decide) (fun c8 => ?_) (fun c8 => ?_)
  · obtain ⟨u, -, ht, rfl⟩ := inF_lo c8 (by omega) (by omega)
    have ct := nI_clamp (show u < 2 ^ 31 by omega)
    refine r_aload_n (pc := 13) X dX7_judge_13 rfl ?_
    refine r_getr (pc := 14) X dX7_judge_14 tf_7_49 rfl (kc_23 C) (rc_23_8 C) ?_
    refine r_iload_n (pc := 17) X dX7_judge_17 rfl ?_
    refine r_c0_1P (pc := 18) X rfl dX7_judge_18 tc_7_218 mm_X6_holds (kc_70 C) rfl rfl (u_holds (d + 7) R ht) (Nat.le_of_ble_eq_true rfl) ?_
    refine r_if_eqB (pc := 21) X dX7_judge_21 (tgt := 39) (by decide) (fun c21 => ?_) (fun c21 => ?_)
    · refine r_iconst (pc := 39) (v := (nI 0)) X dX7_judge_39 (by decide) ?_
      refine r_istore_n (pc := 40) X dX7_judge_40 (Nat.le_of_ble_eq_true rfl) ?_
      have e9 : f_judge σ (nI u) i = (juF (sT σ) (sV σ) u i (vP (sV σ)) 0, σ) := by simp (decide := true) [f_judge, ct, c8, c21]
      exact l_judge d R O ht rfl X ⟨QC.mk e9 R FR.rf, rfl⟩ (vP (sV σ)) 0 (by omega) rfl
    · refine r_aload_n (pc := 24) X dX7_judge_24 rfl ?_
      refine r_getr (pc := 25) X dX7_judge_25 tf_7_49 rfl (kc_23 C) (rc_23_8 C) ?_
      refine r_getr (pc := 28) X dX7_judge_28 tf_7_221 rfl (kc_70 C) (rc_70_0 C) ?_
      refine r_iload_n (pc := 31) X dX7_judge_31 rfl ?_
      refine r_ialdW (pc := 32) X dX7_judge_32 (kc_71 C) rfl (show u < 6 by omega) (by omega) (R.t1 u) ?_
      refine r_if_eq (pc := 33) X dX7_judge_33 (tgt := 39) (by decide) (fun c33 => ?_) (fun c33 => ?_)
      · refine r_iconst (pc := 39) (v := (nI 0)) X dX7_judge_39 (by decide) ?_
        refine r_istore_n (pc := 40) X dX7_judge_40 (Nat.le_of_ble_eq_true rfl) ?_
        have e9 : f_judge σ (nI u) i = (juF (sT σ) (sV σ) u i (vP (sV σ)) 0, σ) := by simp (decide := true) [f_judge, ct, c8, c21, c33]
        exact l_judge d R O ht rfl X ⟨QC.mk e9 R FR.rf, rfl⟩ (vP (sV σ)) 0 (by omega) rfl
      · refine r_bipush (pc := 36) (v := (-12)) X dX7_judge_36 (by decide) ?_
        refine r_iret (pc := 38) X dX7_judge_38 rfl rfl ?_
        refine ⟨QC.mk (σ1 := σ) ?_ R FR.rf, rfl⟩
        simp (decide := true) [f_judge, ct, c8, c21, c33]
  · refine r_iconst (pc := 11) (v := (-1)) X dX7_judge_11 (by decide) ?_
    refine r_iret (pc := 12) X dX7_judge_12 rfl rfl ?_
    refine ⟨QC.mk (σ1 := σ) ?_ R FR.rf, rfl⟩
    simp (decide := true) [f_judge, c8]
set_option maxRecDepth 10000 in
set_option maxHeartbeats 4000000 in
theorem k_read : ∀ (d : Nat) (t i : Int32) {σ : SG} {h : hp_T} {M : Mem} {B0 : Nat} (R : CRep σ h M) (O : OK B0 σ), Ex (d + 8) nX7_read [.ref 23, .int t, .int i] (wi h M) 0 0 (QL (f_read σ t i) h M) := by
  intro d t i σ h M B0 R O
  have C := R.C
  refine Ex.of mm_X7_read (Nat.le_of_ble_eq_true rfl) fun w κ X hk hnm => ?_
  refine r_aload_n (pc := 0) X dX7_read_0 rfl ?_
  refine r_getr (pc := 1) X dX7_read_1 tf_7_49 rfl (kc_23 C) (rc_23_8 C) ?_
  refine r_iload_n (pc := 4) X dX7_read_4 rfl ?_
  refine r_c0_1P (pc := 5) X rfl dX7_read_5 tc_7_217 mm_X6_has (kc_70 C) rfl rfl (e_t_has (d + 6) t) (Nat.le_of_ble_eq_true rfl) ?_
  refine r_if_eqB (pc := 8) X dX7_read_8 (tgt := 23) (by decide) (fun c8 => ?_) (fun c8 => ?_)
  · refine r_ldc2 (pc := 23) (v := (-9223372036854775808)) X dX7_read_23 tk_7_189 ?_
    refine r_lret (pc := 26) X dX7_read_26 rfl ?_
    refine ⟨QL.mk (σ1 := σ) ?_ R FR.rf, rfl⟩
    simp (decide := true) [f_read, c8, c8]
  · obtain ⟨u, -, ht, rfl⟩ := inF_lo c8 (by omega) (by omega)
    have ct := nI_clamp (show u < 2 ^ 31 by omega)
    refine r_aload_n (pc := 11) X dX7_read_11 rfl ?_
    refine r_getr (pc := 12) X dX7_read_12 tf_7_49 rfl (kc_23 C) (rc_23_8 C) ?_
    refine r_iload_n (pc := 15) X dX7_read_15 rfl ?_
    refine r_iload_n (pc := 16) X dX7_read_16 rfl ?_
    refine r_c0_2P (pc := 17) X rfl dX7_read_17 tc_7_224 mm_X6_hasPlace (kc_70 C) rfl rfl (u_place (d + 7) i R ht) (Nat.le_of_ble_eq_true rfl) ?_
    refine r_if_neB (pc := 20) X dX7_read_20 (tgt := 27) (by decide) (fun c20 => ?_) (fun c20 => ?_)
    · obtain ⟨j, hj, ej⟩ := pl_nat O.2.2.2.2.2 ht c20
      have ej2 : i.toNatClampNeg = j := by rw [ej]; exact nI_clamp (by omega)
      refine r_aload_n (pc := 27) X dX7_read_27 rfl ?_
      refine r_getr (pc := 28) X dX7_read_28 tf_7_49 rfl (kc_23 C) (rc_23_8 C) ?_
      refine r_getr (pc := 31) X dX7_read_31 tf_7_228 rfl (kc_70 C) (rc_70_2 C) ?_
      refine r_iload_n (pc := 34) X dX7_read_34 rfl ?_
      refine r_aald (pc := 35) X dX7_read_35 (kc_73 C) rfl (show u < 6 by omega) (by omega) (rc_row C ht) (by omega) ?_
      refine r_iload_n (pc := 36) X dX7_read_36 rfl ?_
      refine r_lald (pc := 37) X dX7_read_37 (kc_row C ht) ej hj (by omega) (R.t3 ht hj) ?_
      refine r_lret (pc := 38) X dX7_read_38 rfl ?_
      refine ⟨QL.mk (σ1 := σ) ?_ R FR.rf, rfl⟩
      simp (decide := true) [f_read, ct, ej2, c8, c20]
    · refine r_ldc2 (pc := 23) (v := (-9223372036854775808)) X dX7_read_23 tk_7_189 ?_
      refine r_lret (pc := 26) X dX7_read_26 rfl ?_
      refine ⟨QL.mk (σ1 := σ) ?_ R FR.rf, rfl⟩
      simp (decide := true) [f_read, ct, c8, c20]
