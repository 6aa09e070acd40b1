/-! what a call does, as the state tells -/
abbrev setTx (σ : SG) (T : TX) : SG := (σ.1, σ.2.1, σ.2.2.1, T, σ.2.2.2.2)
abbrev setBl (σ : SG) (l : List Int32) : SG := (σ.1, σ.2.1, σ.2.2.1, σ.2.2.2.1, l, σ.2.2.2.2.2)
abbrev setTp (σ : SG) (T : TT) : SG := (σ.1, σ.2.1, σ.2.2.1, σ.2.2.2.1, σ.2.2.2.2.1, T)
abbrev setSe (σ : SG) (l : PL) : SG := ((σ.1.1, σ.1.2.1, l, σ.1.2.2.2), σ.2)
abbrev setGa (σ : SG) (l : PL) : SG := ((σ.1.1, σ.1.2.1, σ.1.2.2.1, l, σ.1.2.2.2.2), σ.2)
abbrev setBo (σ : SG) (l : PL) : SG := ((σ.1.1, σ.1.2.1, σ.1.2.2.1, σ.1.2.2.2.1, l), σ.2)
def f_person (σ : SG) (k v e n : Int32) : Int32 × SG := if inF k (nI 0) (nI 6) then (if inF v (nI 0) (nI 9) && inF e (nI 0) (nI 19) && inF n (nI 0) (nI 9) then ((joinF (sV σ) k v e n).1, setV σ (joinF (sV σ) k v e n).2) else (-2, σ)) else (-1, σ)
def f_of (σ : SG) (p x : Int32) : Int32 × SG := (if hasF p (sV σ 0 6) then (if x = nI 0 then sV σ 1 p.toNatClampNeg else if x = nI 1 then sV σ 2 p.toNatClampNeg else if x = nI 2 then sV σ 3 p.toNatClampNeg else if x = nI 3 then sV σ 4 p.toNatClampNeg else if x = nI 4 then sV σ 5 p.toNatClampNeg
  else if x = nI 5 then reachF (EE σ) (sV σ) p.toNatClampNeg else if x = nI 6 then enc5 (targetF (EE σ) (sV σ) p.toNatClampNeg) else if x = nI 7 then rainF (EE σ) (sV σ) p.toNatClampNeg else -1001) else -1001, σ)
def f_set (σ : SG) (p x n : Int32) : Int32 × SG := if hasF p (sV σ 0 6) && inF x (nI 0) (nI 1) then (if x = 0 then (if inF n (nI 0) (nI 19) then (sV σ 3 p.toNatClampNeg, setV σ (vU (sV σ) 3 p.toNatClampNeg n)) else (-2, σ)) else (if inF n (nI 0) (nI 9) then (sV σ 4 p.toNatClampNeg, setV σ (vU (sV σ) 4 p.toNatClampNeg n)) else (-2, σ))) else (-1, σ)
def f_row (σ : SG) (p x n : Int32) : Int32 × SG := if hasF p (sV σ 0 6) && inF x (nI 0) (nI 3) then (if inF n (nI 0) (nI 9) then (if sV σ 1 p.toNatClampNeg = nI 6 then (sV σ 6 (p.toNatClampNeg * 4 + x.toNatClampNeg), setV σ (vU (sV σ) 6 (p.toNatClampNeg * 4 + x.toNatClampNeg) n)) else (-3, σ)) else (-2, σ)) else (-1, σ)
def f_with (σ : SG) (p : Int32) : Int32 × SG := if hasF p (sV σ 0 6) then (sV σ 0 7, setV σ (handF (sV σ) p)) else (-1, σ)
def f_weight (σ : SG) (n : Int32) : Int32 × SG := if inF n (nI 0) (nI 999) then (sV σ 0 8, setV σ (vU (sV σ) 0 8 n)) else (-2, σ)
def txAdd (T : TX) (s : Nat) : TX := if 100 ≤ T.1 then T else (T.1 + 1, fun i => if i = T.1 then s else T.2 i)
def f_feed (σ : SG) (x : Int32) : Int32 × SG := if inF x (nI 0) (nI 127) then (if 100 ≤ (sXt σ).1 then -4 else nI ((sXt σ).1 + 1), setTx σ (txAdd (sXt σ) x.toNatClampNeg)) else (-2, σ)
def f_told (σ : SG) (x : Int32) : Int32 × SG := (if x = nI 0 then sV σ 0 9 else if x = nI 1 then holdF (sV σ) else if x = nI 2 then sV σ 0 8 else if x = nI 3 then sV σ 0 10 else if x = nI 4 then (EE σ).1 else if x = nI 5 then (EE σ).2.1 else -1, σ)
def f_step (σ : SG) : Int32 × SG := if sV σ 0 9 < nI 9999 then ((moveF (EE σ) (sV σ)).1, setV σ (moveF (EE σ) (sV σ)).2) else (-3, σ)
def f_on (σ : SG) (n x : Int32) : Int32 × SG := if inF x (nI 0) (nI 2) || hasF (x - nI 10) (sV σ 0 6) || hasF (x - nI 20) (sV σ 0 6) then (if inF n (nI 0) (nI 99) then
  (if hasF (x - nI 10) (sV σ 0 6) then goF (EE σ) n.toNatClampNeg (sV σ) 4 (x - nI 10).toNatClampNeg else if hasF (x - nI 20) (sV σ 0 6) then goF (EE σ) n.toNatClampNeg (sV σ) 5 (x - nI 20).toNatClampNeg else buckF (goF (EE σ) n.toNatClampNeg (sV σ)) x, σ) else (-2, σ)) else (-1, σ)
def endN (E : EV) (V : VT) : Nat := outF E 100 0 V
def f_ends (σ : SG) : Int32 × SG := (if nI (endN (EE σ) (sV σ)) ≤ nI 99 then nI (endN (EE σ) (sV σ)) else -5, σ)
def amax (f : Nat → Int32) : Nat → Int32 × Int32
  | 0 => (-5, -1)
  | k + 1 => if f k ≤ (amax f k).2 then amax f k else (nI k, f k)
def f_longest (σ : SG) : Int32 × SG := ((amax (fun q => nI (endN (EE σ) (handF (sV σ) (nI q)))) (vP (sV σ))).1, σ)
theorem inF_lo {x : Int32} {a b : Nat} (h : inF x (nI a) (nI b) = true) (hb : b < 2 ^ 31) (ha : a < 2 ^ 31) : ∃ t, a ≤ t ∧ t ≤ b ∧ x = nI t := by
  unfold inF at h
  rw [Bool.and_eq_true] at h
  obtain ⟨h1, h2⟩ := h
  simp only [Bool.not_eq_true', decide_eq_false_iff_not] at h1 h2
  have h3 : ¬ x < 0 := fun z => h1 (Int32.lt_of_lt_of_le z (nI_pos' ha))
  obtain ⟨j, hj, e⟩ := nI_of h3
  subst e
  exact ⟨j, Nat.not_lt.mp fun z => h1 (nI_lt z ha), Nat.not_lt.mp fun z => h2 (nI_lt z hj), rfl⟩
section U27
variable {σ : SG} {h g : hp_T} {M M1 : Mem} {V : VT} {B B0 : Nat}
theorem CRep.a0 (R : CRep σ h M) (k : Nat) : M 25 k = sV σ 0 k := congrFun (congrFun R.v 0) k
theorem CRep.a1 (R : CRep σ h M) (k : Nat) : M 26 k = sV σ 1 k := congrFun (congrFun R.v 1) k
theorem CRep.a2 (R : CRep σ h M) (k : Nat) : M 27 k = sV σ 2 k := congrFun (congrFun R.v 2) k
theorem CRep.a3 (R : CRep σ h M) (k : Nat) : M 28 k = sV σ 3 k := congrFun (congrFun R.v 3) k
theorem CRep.a4 (R : CRep σ h M) (k : Nat) : M 29 k = sV σ 4 k := congrFun (congrFun R.v 4) k
theorem CRep.a5 (R : CRep σ h M) (k : Nat) : M 30 k = sV σ 5 k := congrFun (congrFun R.v 5) k
theorem CRep.a6 (R : CRep σ h M) (k : Nat) : M 31 k = sV σ 6 k := congrFun (congrFun R.v 6) k
theorem CRep.pp (R : CRep σ h M) (O : OK B0 σ) : M 25 6 = nI (vP (sV σ)) := (R.a0 6).trans O.w.1
theorem TS.a0 (T : TS σ g M V) (k : Nat) : M 58 k = V 0 k := congrFun (congrFun T.2.1 0) k
theorem TS.a3 (T : TS σ g M V) (k : Nat) : M 61 k = V 3 k := congrFun (congrFun T.2.1 3) k
theorem TS.a4 (T : TS σ g M V) (k : Nat) : M 62 k = V 4 k := congrFun (congrFun T.2.1 4) k
theorem TS.a5 (T : TS σ g M V) (k : Nat) : M 63 k = V 5 k := congrFun (congrFun T.2.1 5) k
theorem CRep.uf (R : CRep σ h M) (O : OK B0 σ) {f k : Nat} {x : Int32} (hf : (1 ≤ f ∧ f ≤ 5 ∧ k < 6) ∨ (f = 6 ∧ k < 24)) : CRep (setV σ (vU (sV σ) f k x)) h (mU M (25 + f) (upd (M (25 + f)) k x)) ∧ FR h M h (mU M (25 + f) (upd (M (25 + f)) k x)) := by
  have p : pS M 25 (vU (Sv M 25) f k x) (mU M (25 + f) (upd (M (25 + f)) k x)) := pS.rf.uf (by omega)
  rw [R.v] at p
  exact R.street p (O.z.U (by omega))
theorem CRep.u0 (R : CRep σ h M) (O : OK B0 σ) {k : Nat} {x : Int32} (hk : 6 ≤ k ∧ k ≤ 10) : CRep (setV σ (vU (sV σ) 0 k x)) h (mU M 25 (upd (M 25) k x)) ∧ FR h M h (mU M 25 (upd (M 25) k x)) := by
  have p : pS M 25 (vU (Sv M 25) 0 k x) (mU M 25 (upd (M 25) k x)) := pS.rf.u0
  rw [R.v] at p
  exact R.street p (O.z.U (by omega))
-- the parts of the state that stay
theorem CRep.kS (R : CRep σ h M) (hr : h_r g 25 11 = h_r h 25 11) (k1 : ∀ q, 25 ≤ q → q ≤ 31 → M1 q = M q) (k2 : ∀ q, 32 ≤ q → q ≤ 40 → M1 q = M q) : SceneC σ.1 g M1 25 32 35 38 ∧ HyC M1 25 32 35 38 :=
  ⟨R.2.1.kept (fun q h1 h2 => k1 q h1 (by omega)) (fun q h1 h2 => k2 q h1 (by omega)) (by omega) (by omega) hr, R.hy.kept (fun q h1 h2 => k1 q h1 (by omega)) (fun q h1 h2 => k2 q h1 (by omega)) (by omega) (by omega)⟩
theorem CRep.kI (R : CRep σ h M) (hr : h_r g 42 11 = h_r h 42 11) (k0 : M1 23 2 = M 23 2) (k1 : ∀ q, 42 ≤ q → q ≤ 48 → M1 q = M q) (k2 : ∀ q, 49 ≤ q → q ≤ 57 → M1 q = M q) : ImgC (sIm σ) g M1 ∧ HyC M1 42 49 52 55 :=
  ⟨⟨fun e => by rw [k0]; exact R.im.1 e, fun s e => ⟨by rw [k0]; exact (R.im.2 s e).1, (R.im.2 s e).2.kept (fun q h1 h2 => k1 q h1 (by omega)) (fun q h1 h2 => k2 q h1 (by omega)) (by omega) (by omega) hr⟩⟩, R.hk.kept (fun q h1 h2 => k1 q h1 (by omega)) (fun q h1 h2 => k2 q h1 (by omega)) (by omega) (by omega)⟩
theorem CRep.kZ (R : CRep σ h M) (k1 : ∀ q, 58 ≤ q → q ≤ 64 → M1 q = M q) : ZV (Sv M1 58) := by
  rw [Sv_same fun f hf => k1 (58 + f) (by omega) (by omega)]
  exact R.tz
theorem CRep.kE (R : CRep σ h M) (k0 : M1 23 6 = M 23 6) (k1 : ∀ q, 123 ≤ q → M1 q = M q) : EvsC (sEv σ) h M1 :=
  ⟨by rw [k0]; exact R.ev.1, R.ev.2.1, fun j hj => (R.ev.2.2 j hj).kept (k1 _ (by omega)) (k1 _ (by omega)) rfl (Nat.le_refl _) rfl⟩
theorem CRep.kX (R : CRep σ h M) (k1 : M1 65 1 = M 65 1) (k2 : M1 66 = M 66) : TxS (sXt σ) M1 := by
  unfold TxS
  rw [k1, k2]
  exact R.tx
theorem CRep.kB (R : CRep σ h M) (k1 : M1 68 1 = M 68 1) (k2 : M1 69 = M 69) : BlC (sBl σ) M1 := by
  unfold BlC
  rw [k1, k2]
  exact R.bl
theorem CRep.kP (R : CRep σ h M) (k1 : M1 71 = M 71) (k2 : M1 72 = M 72) : Tc M1 (h_l h) = sT σ := by
  show (M1 71, M1 72, _) = _
  rw [k1, k2]
  exact R.tp
theorem CRep.setTx (R : CRep σ h M) {T : TX} (k : ∀ b, b ≠ 65 → b ≠ 66 → b ≠ 67 → M1 b = M b) (t : TxS T M1) : CRep (setTx σ T) h M1 ∧ FR h M h M1 :=
  ⟨⟨R.C, (R.kS rfl (fun q h1 h2 => k q (by omega) (by omega) (by omega)) (fun q h1 h2 => k q (by omega) (by omega) (by omega))).1, (R.kS (g := h) rfl (fun q h1 h2 => k q (by omega) (by omega) (by omega)) (fun q h1 h2 => k q (by omega) (by omega) (by omega))).2,
    (R.kI rfl (by rw [k 23 (by omega) (by omega) (by omega)]) (fun q h1 h2 => k q (by omega) (by omega) (by omega)) (fun q h1 h2 => k q (by omega) (by omega) (by omega))).1, (R.kI (g := h) rfl (by rw [k 23 (by omega) (by omega) (by omega)]) (fun q h1 h2 => k q (by omega) (by omega) (by omega)) (fun q h1 h2 => k q (by omega) (by omega) (by omega))).2,
    R.kZ (fun q h1 h2 => k q (by omega) (by omega) (by omega)), R.kE (by rw [k 23 (by omega) (by omega) (by omega)]) (fun q h1 => k q (by omega) (by omega) (by omega)), t, R.kB (by rw [k 68 (by omega) (by omega) (by omega)]) (k 69 (by omega) (by omega) (by omega)), R.kP (k 71 (by omega) (by omega) (by omega)) (k 72 (by omega) (by omega) (by omega))⟩, FR.m fun b h1 h2 => k b (by omega) (by omega) (by omega)⟩
end U27
set_option maxRecDepth 10000 in
set_option maxHeartbeats 4000000 in
theorem k_person : ∀ (d : Nat) (k v e n : Int32) {σ : SG} {h : hp_T} {M : Mem} {B0 : Nat} (R : CRep σ h M) (O : OK B0 σ), Ex (d + 8) nX7_person [.ref 23, .int k, .int v, .int e, .int n] (wi h M) 0 0 (QC (f_person σ k v e n) h M) := by
  intro d k v e n σ h M B0 R O
  have C := R.C
  refine Ex.of mm_X7_person (Nat.le_of_ble_eq_true rfl) fun w κ X hk hnm => ?_
  refine r_iload_n (pc := 0) X dX7_person_0 rfl ?_
  refine r_iconst (pc := 1) (v := (nI 0)) X dX7_person_1 (by decide) ?_
  refine r_bipush (pc := 2) (v := (nI 6)) X dX7_person_2 (by decide) ?_
  refine r_c1_3P (pc := 4) X rfl dX7_person_4 tc_7_53 mm_X7_isWithin (e_in (d + 7) k (nI 0) (nI 6)) (Nat.le_of_ble_eq_true rfl) ?_
  refine r_if_neB (pc := 7) X dX7_person_7 (tgt := 12) (by decide) (fun c7 => ?_) (fun c7 => ?_)
  · refine r_iload_n (pc := 12) X dX7_person_12 rfl ?_
    refine r_c1_1P (pc := 13) X rfl dX7_person_13 tc_7_57 mm_X7_isDigit (e_digit (d + 6) v) (Nat.le_of_ble_eq_true rfl) ?_
    refine r_if_eqB (pc := 16) X dX7_person_16 (tgt := 34) (by decide) (fun c16 => ?_) (fun c16 => ?_)
    · refine r_bipush (pc := 34) (v := (-2)) X dX7_person_34 (by decide) ?_
      refine r_iret (pc := 36) X dX7_person_36 rfl rfl ?_
      refine ⟨QC.mk (σ1 := σ) ?_ R FR.rf, rfl⟩
      simp (decide := true) [f_person, c7, c16]
    · refine r_iload_n (pc := 19) X dX7_person_19 rfl ?_
      refine r_c1_1P (pc := 20) X rfl dX7_person_20 tc_7_61 mm_X7_isDoor (e_door (d + 6) e) (Nat.le_of_ble_eq_true rfl) ?_
      refine r_if_eqB (pc := 23) X dX7_person_23 (tgt := 34) (by decide) (fun c23 => ?_) (fun c23 => ?_)
      · refine r_bipush (pc := 34) (v := (-2)) X dX7_person_34 (by decide) ?_
        refine r_iret (pc := 36) X dX7_person_36 rfl rfl ?_
        refine ⟨QC.mk (σ1 := σ) ?_ R FR.rf, rfl⟩
        simp (decide := true) [f_person, c7, c16, c23]
      · refine r_iload (pc := 26) X dX7_person_26 rfl ?_
        refine r_c1_1P (pc := 28) X rfl dX7_person_28 tc_7_57 mm_X7_isDigit (e_digit (d + 6) n) (Nat.le_of_ble_eq_true rfl) ?_
        refine r_if_neB (pc := 31) X dX7_person_31 (tgt := 37) (by decide) (fun c31 => ?_) (fun c31 => ?_)
        · refine r_aload_n (pc := 37) X dX7_person_37 rfl ?_
          refine r_getr (pc := 38) X dX7_person_38 tf_7_25 rfl (kc_23 C) (rc_23_3 C) ?_
          refine r_iload_n (pc := 41) X dX7_person_41 rfl ?_
          refine r_iload_n (pc := 42) X dX7_person_42 rfl ?_
          refine r_iload_n (pc := 43) X dX7_person_43 rfl ?_
          refine r_iload (pc := 44) X dX7_person_44 rfl ?_
          refine r_c0_4IW (pc := 46) X rfl dX7_person_46 tc_7_64 mm_X5_join (kc_25 C) rfl rfl (u_join (d + 7) k v e n R O) (Nat.le_of_ble_eq_true rfl) (fun r46 M46 q46 => ?_)
          refine r_iret (pc := 49) X dX7_person_49 rfl rfl ?_
          obtain ⟨rfl, q1⟩ := q46
          have q9 := q1
          refine ⟨QC.mk ?_ q9.1 q9.2, rfl⟩
          simp (decide := true) [f_person, c7, c16, c23, c31]
        · refine r_bipush (pc := 34) (v := (-2)) X dX7_person_34 (by decide) ?_
          refine r_iret (pc := 36) X dX7_person_36 rfl rfl ?_
          refine ⟨QC.mk (σ1 := σ) ?_ R FR.rf, rfl⟩
          simp (decide := true) [f_person, c7, c16, c23, c31]
  · refine r_iconst (pc := 10) (v := (-1)) X dX7_person_10 (by decide) ?_
    refine r_iret (pc := 11) X dX7_person_11 rfl rfl ?_
    refine ⟨QC.mk (σ1 := σ) ?_ R FR.rf, rfl⟩
    simp (decide := true) [f_person, c7]
set_option maxRecDepth 10000 in
set_option maxHeartbeats 4000000 in
theorem k_of : ∀ (d : Nat) (p x : Int32) {σ : SG} {h : hp_T} {M : Mem} {B0 : Nat} (R : CRep σ h M) (O : OK B0 σ), Ex (d + 8) nX7_of [.ref 23, .int p, .int x] (wi h M) 0 0 (QC (f_of σ p x) h M) := by
  intro d p x σ h M B0 R O
  have C := R.C
  refine Ex.of mm_X7_of (Nat.le_of_ble_eq_true rfl) fun w κ X hk hnm => ?_
  refine r_aload_n (pc := 0) X dX7_of_0 rfl ?_
  refine r_getr (pc := 1) X dX7_of_1 tf_7_25 rfl (kc_23 C) (rc_23_3 C) ?_
  refine r_iload_n (pc := 4) X dX7_of_4 rfl ?_
  refine r_c0_1P (pc := 5) X rfl dX7_of_5 tc_7_68 mm_X5_has (kc_25 C) rfl rfl (u_has (d + 7) p R) (Nat.le_of_ble_eq_true rfl) ?_
  refine r_if_neB (pc := 8) X dX7_of_8 (tgt := 15) (by decide) (fun c8 => ?_) (fun c8 => ?_)
  · obtain ⟨p, hp, hp6, rfl⟩ := has_nat O.w c8
    have cp := nI_clamp (show p < 2 ^ 31 by omega)
    refine r_iload_n (pc := 15) X dX7_of_15 rfl ?_
    refine sw_X7_of_16 X (fun z16 => ?_) (fun z16 => ?_) (fun z16 => ?_) (fun z16 => ?_) (fun z16 => ?_) (fun z16 => ?_) (fun z16 => ?_) (fun z16 => ?_) (fun z16 => ?_)
    · refine r_aload_n (pc := 64) X dX7_of_64 rfl ?_
      refine r_getr (pc := 65) X dX7_of_65 tf_7_25 rfl (kc_23 C) (rc_23_3 C) ?_
      refine r_getr (pc := 68) X dX7_of_68 tf_7_71 rfl (kc_25 C) (rc_25_0 C) ?_
      refine r_iload_n (pc := 71) X dX7_of_71 rfl ?_
      refine r_ialdW (pc := 72) X dX7_of_72 (kc_26 C) rfl hp6 (by omega) (R.a1 p) ?_
      refine r_iret (pc := 73) X dX7_of_73 rfl rfl ?_
      refine ⟨QC.mk (σ1 := σ) ?_ R FR.rf, rfl⟩
      simp (decide := true) [f_of, cp, c8, z16]
    · refine r_aload_n (pc := 74) X dX7_of_74 rfl ?_
      refine r_getr (pc := 75) X dX7_of_75 tf_7_25 rfl (kc_23 C) (rc_23_3 C) ?_
      refine r_getr (pc := 78) X dX7_of_78 tf_7_75 rfl (kc_25 C) (rc_25_1 C) ?_
      refine r_iload_n (pc := 81) X dX7_of_81 rfl ?_
      refine r_ialdW (pc := 82) X dX7_of_82 (kc_27 C) rfl hp6 (by omega) (R.a2 p) ?_
      refine r_iret (pc := 83) X dX7_of_83 rfl rfl ?_
      refine ⟨QC.mk (σ1 := σ) ?_ R FR.rf, rfl⟩
      simp (decide := true) [f_of, cp, c8, z16]
    · refine r_aload_n (pc := 84) X dX7_of_84 rfl ?_
      refine r_getr (pc := 85) X dX7_of_85 tf_7_25 rfl (kc_23 C) (rc_23_3 C) ?_
      refine r_getr (pc := 88) X dX7_of_88 tf_7_78 rfl (kc_25 C) (rc_25_2 C) ?_
      refine r_iload_n (pc := 91) X dX7_of_91 rfl ?_
      refine r_ialdW (pc := 92) X dX7_of_92 (kc_28 C) rfl hp6 (by omega) (R.a3 p) ?_
      refine r_iret (pc := 93) X dX7_of_93 rfl rfl ?_
      refine ⟨QC.mk (σ1 := σ) ?_ R FR.rf, rfl⟩
      simp (decide := true) [f_of, cp, c8, z16]
    · refine r_aload_n (pc := 94) X dX7_of_94 rfl ?_
      refine r_getr (pc := 95) X dX7_of_95 tf_7_25 rfl (kc_23 C) (rc_23_3 C) ?_
      refine r_getr (pc := 98) X dX7_of_98 tf_7_81 rfl (kc_25 C) (rc_25_3 C) ?_
      refine r_iload_n (pc := 101) X dX7_of_101 rfl ?_
      refine r_ialdW (pc := 102) X dX7_of_102 (kc_29 C) rfl hp6 (by omega) (R.a4 p) ?_
      refine r_iret (pc := 103) X dX7_of_103 rfl rfl ?_
      refine ⟨QC.mk (σ1 := σ) ?_ R FR.rf, rfl⟩
      simp (decide := true) [f_of, cp, c8, z16]
    · refine r_aload_n (pc := 104) X dX7_of_104 rfl ?_
      refine r_getr (pc := 105) X dX7_of_105 tf_7_25 rfl (kc_23 C) (rc_23_3 C) ?_
      refine r_getr (pc := 108) X dX7_of_108 tf_7_84 rfl (kc_25 C) (rc_25_4 C) ?_
      refine r_iload_n (pc := 111) X dX7_of_111 rfl ?_
      refine r_ialdW (pc := 112) X dX7_of_112 (kc_30 C) rfl hp6 (by omega) (R.a5 p) ?_
      refine r_iret (pc := 113) X dX7_of_113 rfl rfl ?_
      refine ⟨QC.mk (σ1 := σ) ?_ R FR.rf, rfl⟩
      simp (decide := true) [f_of, cp, c8, z16]
    · refine r_aload_n (pc := 114) X dX7_of_114 rfl ?_
      refine r_getr (pc := 115) X dX7_of_115 tf_7_25 rfl (kc_23 C) (rc_23_3 C) ?_
      refine r_iload_n (pc := 118) X dX7_of_118 rfl ?_
      refine r_c0_1P (pc := 119) X rfl dX7_of_119 tc_7_87 mm_X5_reach (kc_25 C) rfl rfl (u_reach (d + 6) R O hp6) (Nat.le_of_ble_eq_true rfl) ?_
      refine r_iret (pc := 122) X dX7_of_122 rfl rfl ?_
      refine ⟨QC.mk (σ1 := σ) ?_ R FR.rf, rfl⟩
      simp (decide := true) [f_of, cp, c8, z16]
    · refine r_aload_n (pc := 123) X dX7_of_123 rfl ?_
      refine r_getr (pc := 124) X dX7_of_124 tf_7_25 rfl (kc_23 C) (rc_23_3 C) ?_
      refine r_iload_n (pc := 127) X dX7_of_127 rfl ?_
      refine r_c0_1P (pc := 128) X rfl dX7_of_128 tc_7_91 mm_X5_target (kc_25 C) rfl rfl (u_target (d + 4) R O hp6) (Nat.le_of_ble_eq_true rfl) ?_
      refine r_iret (pc := 131) X dX7_of_131 rfl rfl ?_
      refine ⟨QC.mk (σ1 := σ) ?_ R FR.rf, rfl⟩
      simp (decide := true) [f_of, cp, c8, z16]
    · refine r_aload_n (pc := 132) X dX7_of_132 rfl ?_
      refine r_getr (pc := 133) X dX7_of_133 tf_7_25 rfl (kc_23 C) (rc_23_3 C) ?_
      refine r_iload_n (pc := 136) X dX7_of_136 rfl ?_
      refine r_c0_1IW (pc := 137) X rfl dX7_of_137 tc_7_94 mm_X5_rain (kc_25 C) rfl rfl (u_rain (d + 5) R O hp6) (Nat.le_of_ble_eq_true rfl) (fun r137 M137 q137 => ?_)
      refine r_iret (pc := 140) X dX7_of_140 rfl rfl ?_
      obtain ⟨rfl, q1⟩ := q137
      have q9 := q1
      refine ⟨QC.mk ?_ q9.1 q9.2, rfl⟩
      simp (decide := true) [f_of, cp, c8, z16]
    · refine r_sipush (pc := 141) (v := (-1001)) X dX7_of_141 (by decide) ?_
      refine r_iret (pc := 144) X dX7_of_144 rfl rfl ?_
      refine ⟨QC.mk (σ1 := σ) ?_ R FR.rf, rfl⟩
      simp (decide := true) [f_of, cp, c8, z16]
  · refine r_sipush (pc := 11) (v := (-1001)) X dX7_of_11 (by decide) ?_
    refine r_iret (pc := 14) X dX7_of_14 rfl rfl ?_
    refine ⟨QC.mk (σ1 := σ) ?_ R FR.rf, rfl⟩
    simp (decide := true) [f_of, c8]
set_option maxRecDepth 10000 in
set_option maxHeartbeats 4000000 in
theorem k_set : ∀ (d : Nat) (p x n : Int32) {σ : SG} {h : hp_T} {M : Mem} {B0 : Nat} (R : CRep σ h M) (O : OK B0 σ), Ex (d + 8) nX7_set [.ref 23, .int p, .int x, .int n] (wi h M) 0 0 (QC (f_set σ p x n) h M) := by
  intro d p x n σ h M B0 R O
  have C := R.C
  refine Ex.of mm_X7_set (Nat.le_of_ble_eq_true rfl) fun w κ X hk hnm => ?_
  refine r_aload_n (pc := 0) X dX7_set_0 rfl ?_
  refine r_getr (pc := 1) X dX7_set_1 tf_7_25 rfl (kc_23 C) (rc_23_3 C) ?_
  refine r_iload_n (pc := 4) X dX7_set_4 rfl ?_
  refine r_c0_1P (pc := 5) X rfl dX7_set_5 tc_7_68 mm_X5_has (kc_25 C) rfl rfl (u_has (d + 7) p R) (Nat.le_of_ble_eq_true rfl) ?_
  refine r_if_eqB (pc := 8) X dX7_set_8 (tgt := 20) (by decide) (fun c8 => ?_) (fun c8 => ?_)
  · refine r_iconst (pc := 20) (v := (-1)) X dX7_set_20 (by decide) ?_
    refine r_iret (pc := 21) X dX7_set_21 rfl rfl ?_
    refine ⟨QC.mk (σ1 := σ) ?_ R FR.rf, rfl⟩
    simp (decide := true) [f_set, c8]
  · refine r_iload_n (pc := 11) X dX7_set_11 rfl ?_
    refine r_iconst (pc := 12) (v := (nI 0)) X dX7_set_12 (by decide) ?_
    refine r_iconst (pc := 13) (v := (nI 1)) X dX7_set_13 (by decide) ?_
    refine r_c1_3P (pc := 14) X rfl dX7_set_14 tc_7_53 mm_X7_isWithin (e_in (d + 7) x (nI 0) (nI 1)) (Nat.le_of_ble_eq_true rfl) ?_
    refine r_if_neB (pc := 17) X dX7_set_17 (tgt := 22) (by decide) (fun c17 => ?_) (fun c17 => ?_)
    · obtain ⟨p, hp, hp6, rfl⟩ := has_nat O.w c8
      have cp := nI_clamp (show p < 2 ^ 31 by omega)
      refine r_iload_n (pc := 22) X dX7_set_22 rfl ?_
      refine r_if_ne (pc := 23) X dX7_set_23 (tgt := 36) (by decide) (fun c23 => ?_) (fun c23 => ?_)
      · refine r_iload_n (pc := 36) X dX7_set_36 rfl ?_
        refine r_c1_1P (pc := 37) X rfl dX7_set_37 tc_7_57 mm_X7_isDigit (e_digit (d + 6) n) (Nat.le_of_ble_eq_true rfl) ?_
        refine r_if_neB (pc := 40) X dX7_set_40 (tgt := 46) (by decide) (fun c40 => ?_) (fun c40 => ?_)
        · refine r_iload_n (pc := 46) X dX7_set_46 rfl ?_
          refine r_if_ne (pc := 47) X dX7_set_47 (tgt := 60) (by decide) (fun c47 => ?_) (fun c47 => ?_)
          · refine r_aload_n (pc := 60) X dX7_set_60 rfl ?_
            refine r_getr (pc := 61) X dX7_set_61 tf_7_25 rfl (kc_23 C) (rc_23_3 C) ?_
            refine r_getr (pc := 64) X dX7_set_64 tf_7_81 rfl (kc_25 C) (rc_25_3 C) ?_
            refine r_astore (pc := 67) X dX7_set_67 (Nat.le_of_ble_eq_true rfl) ?_
            refine r_aload (pc := 69) X dX7_set_69 rfl ?_
            refine r_iload_n (pc := 71) X dX7_set_71 rfl ?_
            refine r_ialdW (pc := 72) X dX7_set_72 (kc_29 C) rfl hp6 (by omega) (R.a4 p) ?_
            refine r_istore (pc := 73) X dX7_set_73 (Nat.le_of_ble_eq_true rfl) ?_
            refine r_aload (pc := 75) X dX7_set_75 rfl ?_
            refine r_iload_n (pc := 77) X dX7_set_77 rfl ?_
            refine r_iload_n (pc := 78) X dX7_set_78 rfl ?_
            refine r_iastW (pc := 79) X dX7_set_79 (kc_29 C) rfl hp6 (by omega) ?_
            refine r_iload (pc := 80) X dX7_set_80 rfl ?_
            refine r_iret (pc := 82) X dX7_set_82 rfl rfl ?_
            have q9 := (R.uf O (f := 4) (k := p) (x := n) (by omega))
            refine ⟨QC.mk ?_ q9.1 q9.2, rfl⟩
            simp (decide := true) [f_set, cp, c8, c17, c23, c40, c47]
          · exact absurd c47 c23
        · refine r_bipush (pc := 43) (v := (-2)) X dX7_set_43 (by decide) ?_
          refine r_iret (pc := 45) X dX7_set_45 rfl rfl ?_
          refine ⟨QC.mk (σ1 := σ) ?_ R FR.rf, rfl⟩
          simp (decide := true) [f_set, c8, c17, c23, c40]
      · refine r_iload_n (pc := 26) X dX7_set_26 rfl ?_
        refine r_c1_1P (pc := 27) X rfl dX7_set_27 tc_7_61 mm_X7_isDoor (e_door (d + 6) n) (Nat.le_of_ble_eq_true rfl) ?_
        refine r_if_neB (pc := 30) X dX7_set_30 (tgt := 46) (by decide) (fun c30 => ?_) (fun c30 => ?_)
        · refine r_iload_n (pc := 46) X dX7_set_46 rfl ?_
          refine r_if_ne (pc := 47) X dX7_set_47 (tgt := 60) (by decide) (fun c47 => ?_) (fun c47 => ?_)
          · exact absurd c23 c47
          · refine r_aload_n (pc := 50) X dX7_set_50 rfl ?_
            refine r_getr (pc := 51) X dX7_set_51 tf_7_25 rfl (kc_23 C) (rc_23_3 C) ?_
            refine r_getr (pc := 54) X dX7_set_54 tf_7_78 rfl (kc_25 C) (rc_25_2 C) ?_
            refine r_goto (pc := 57) X dX7_set_57 (tgt := 67) (by decide) ?_
            refine r_astore (pc := 67) X dX7_set_67 (Nat.le_of_ble_eq_true rfl) ?_
            refine r_aload (pc := 69) X dX7_set_69 rfl ?_
            refine r_iload_n (pc := 71) X dX7_set_71 rfl ?_
            refine r_ialdW (pc := 72) X dX7_set_72 (kc_28 C) rfl hp6 (by omega) (R.a3 p) ?_
            refine r_istore (pc := 73) X dX7_set_73 (Nat.le_of_ble_eq_true rfl) ?_
            refine r_aload (pc := 75) X dX7_set_75 rfl ?_
            refine r_iload_n (pc := 77) X dX7_set_77 rfl ?_
            refine r_iload_n (pc := 78) X dX7_set_78 rfl ?_
            refine r_iastW (pc := 79) X dX7_set_79 (kc_28 C) rfl hp6 (by omega) ?_
            refine r_iload (pc := 80) X dX7_set_80 rfl ?_
            refine r_iret (pc := 82) X dX7_set_82 rfl rfl ?_
            have q9 := (R.uf O (f := 3) (k := p) (x := n) (by omega))
            refine ⟨QC.mk ?_ q9.1 q9.2, rfl⟩
            simp (decide := true) [f_set, cp, c8, c17, c23, c30, c47]
        · refine r_goto (pc := 33) X dX7_set_33 (tgt := 43) (by decide) ?_
          refine r_bipush (pc := 43) (v := (-2)) X dX7_set_43 (by decide) ?_
          refine r_iret (pc := 45) X dX7_set_45 rfl rfl ?_
          refine ⟨QC.mk (σ1 := σ) ?_ R FR.rf, rfl⟩
          simp (decide := true) [f_set, c8, c17, c23, c30]
    · refine r_iconst (pc := 20) (v := (-1)) X dX7_set_20 (by decide) ?_
      refine r_iret (pc := 21) X dX7_set_21 rfl rfl ?_
      refine ⟨QC.mk (σ1 := σ) ?_ R FR.rf, rfl⟩
      simp (decide := true) [f_set, c8, c17]
set_option maxRecDepth 10000 in
set_option maxHeartbeats 4000000 in
theorem k_row : ∀ (d : Nat) (p x n : Int32) {σ : SG} {h : hp_T} {M : Mem} {B0 : Nat} (R : CRep σ h M) (O : OK B0 σ), Ex (d + 8) nX7_row [.ref 23, .int p, .int x, .int n] (wi h M) 0 0 (QC (f_row σ p x n) h M) := by
  intro d p x n σ h M B0 R O
  have C := R.C
  refine Ex.of mm_X7_row (Nat.le_of_ble_eq_true rfl) fun w κ X hk hnm => ?_
  refine r_aload_n (pc := 0) X dX7_row_0 rfl ?_
  refine r_getr (pc := 1) X dX7_row_1 tf_7_25 rfl (kc_23 C) (rc_23_3 C) ?_
  refine r_iload_n (pc := 4) X dX7_row_4 rfl ?_
  refine r_c0_1P (pc := 5) X rfl dX7_row_5 tc_7_68 mm_X5_has (kc_25 C) rfl rfl (u_has (d + 7) p R) (Nat.le_of_ble_eq_true rfl) ?_
  refine r_if_eqB (pc := 8) X dX7_row_8 (tgt := 20) (by decide) (fun c8 => ?_) (fun c8 => ?_)
  · refine r_iconst (pc := 20) (v := (-1)) X dX7_row_20 (by decide) ?_
    refine r_iret (pc := 21) X dX7_row_21 rfl rfl ?_
    refine ⟨QC.mk (σ1 := σ) ?_ R FR.rf, rfl⟩
    simp (decide := true) [f_row, c8]
  · refine r_iload_n (pc := 11) X dX7_row_11 rfl ?_
    refine r_iconst (pc := 12) (v := (nI 0)) X dX7_row_12 (by decide) ?_
    refine r_iconst (pc := 13) (v := (nI 3)) X dX7_row_13 (by decide) ?_
    refine r_c1_3P (pc := 14) X rfl dX7_row_14 tc_7_53 mm_X7_isWithin (e_in (d + 7) x (nI 0) (nI 3)) (Nat.le_of_ble_eq_true rfl) ?_
    refine r_if_neB (pc := 17) X dX7_row_17 (tgt := 22) (by decide) (fun c17 => ?_) (fun c17 => ?_)
    · obtain ⟨p, hp, hp6, rfl⟩ := has_nat O.w c8
      have cp := nI_clamp (show p < 2 ^ 31 by omega)
      obtain ⟨t, -, ht, rfl⟩ := inF_lo c17 (by omega) (by omega)
      have ct := nI_clamp (show t < 2 ^ 31 by omega)
      refine r_iload_n (pc := 22) X dX7_row_22 rfl ?_
      refine r_c1_1P (pc := 23) X rfl dX7_row_23 tc_7_57 mm_X7_isDigit (e_digit (d + 6) n) (Nat.le_of_ble_eq_true rfl) ?_
      refine r_if_neB (pc := 26) X dX7_row_26 (tgt := 32) (by decide) (fun c26 => ?_) (fun c26 => ?_)
      · refine r_aload_n (pc := 32) X dX7_row_32 rfl ?_
        refine r_getr (pc := 33) X dX7_row_33 tf_7_25 rfl (kc_23 C) (rc_23_3 C) ?_
        refine r_getr (pc := 36) X dX7_row_36 tf_7_71 rfl (kc_25 C) (rc_25_0 C) ?_
        refine r_iload_n (pc := 39) X dX7_row_39 rfl ?_
        refine r_ialdW (pc := 40) X dX7_row_40 (kc_26 C) rfl hp6 (by omega) (R.a1 p) ?_
        refine r_bipush (pc := 41) (v := (nI 6)) X dX7_row_41 (by decide) ?_
        refine r_icmp_eq (pc := 43) X dX7_row_43 (tgt := 49) (by decide) (fun c43 => ?_) (fun c43 => ?_)
        · refine r_iload_n (pc := 49) X dX7_row_49 rfl ?_
          refine r_iconst (pc := 50) (v := (nI 4)) X dX7_row_50 (by decide) ?_
          refine r_imul (pc := 51) X dX7_row_51 ?_
          refine r_iload_n (pc := 52) X dX7_row_52 rfl ?_
          refine r_iadd (pc := 53) X dX7_row_53 ?_
          refine r_top (y := nI (p * 4 + t)) (by rw [pk_mul, nI_add]) ?_
          refine r_istore (pc := 54) X dX7_row_54 (Nat.le_of_ble_eq_true rfl) ?_
          refine r_aload_n (pc := 56) X dX7_row_56 rfl ?_
          refine r_getr (pc := 57) X dX7_row_57 tf_7_25 rfl (kc_23 C) (rc_23_3 C) ?_
          refine r_getr (pc := 60) X dX7_row_60 tf_7_97 rfl (kc_25 C) (rc_25_5 C) ?_
          refine r_iload (pc := 63) X dX7_row_63 rfl ?_
          refine r_ialdW (pc := 65) X dX7_row_65 (kc_31 C) rfl (show p * 4 + t < 24 by omega) (by omega) (R.a6 (p * 4 + t)) ?_
          refine r_istore (pc := 66) X dX7_row_66 (Nat.le_of_ble_eq_true rfl) ?_
          refine r_aload_n (pc := 68) X dX7_row_68 rfl ?_
          refine r_getr (pc := 69) X dX7_row_69 tf_7_25 rfl (kc_23 C) (rc_23_3 C) ?_
          refine r_getr (pc := 72) X dX7_row_72 tf_7_97 rfl (kc_25 C) (rc_25_5 C) ?_
          refine r_iload (pc := 75) X dX7_row_75 rfl ?_
          refine r_iload_n (pc := 77) X dX7_row_77 rfl ?_
          refine r_iastW (pc := 78) X dX7_row_78 (kc_31 C) rfl (show p * 4 + t < 24 by omega) (by omega) ?_
          refine r_iload (pc := 79) X dX7_row_79 rfl ?_
          refine r_iret (pc := 81) X dX7_row_81 rfl rfl ?_
          have q9 := (R.uf O (f := 6) (k := p * 4 + t) (x := n) (by omega))
          refine ⟨QC.mk ?_ q9.1 q9.2, rfl⟩
          simp (decide := true) [f_row, cp, ct, c8, c17, c26, c43]
        · refine r_bipush (pc := 46) (v := (-3)) X dX7_row_46 (by decide) ?_
          refine r_iret (pc := 48) X dX7_row_48 rfl rfl ?_
          refine ⟨QC.mk (σ1 := σ) ?_ R FR.rf, rfl⟩
          simp (decide := true) [f_row, cp, c8, c17, c26, c43]
      · refine r_bipush (pc := 29) (v := (-2)) X dX7_row_29 (by decide) ?_
        refine r_iret (pc := 31) X dX7_row_31 rfl rfl ?_
        refine ⟨QC.mk (σ1 := σ) ?_ R FR.rf, rfl⟩
        simp (decide := true) [f_row, c8, c17, c26]
    · refine r_iconst (pc := 20) (v := (-1)) X dX7_row_20 (by decide) ?_
      refine r_iret (pc := 21) X dX7_row_21 rfl rfl ?_
      refine ⟨QC.mk (σ1 := σ) ?_ R FR.rf, rfl⟩
      simp (decide := true) [f_row, c8, c17]
set_option maxRecDepth 10000 in
set_option maxHeartbeats 4000000 in
theorem k_with : ∀ (d : Nat) (p : Int32) {σ : SG} {h : hp_T} {M : Mem} {B0 : Nat} (R : CRep σ h M) (O : OK B0 σ), Ex (d + 8) nX7_with [.ref 23, .int p] (wi h M) 0 0 (QC (f_with σ p) h M) := by
  intro d p σ h M B0 R O
  have C := R.C
  refine Ex.of mm_X7_with (Nat.le_of_ble_eq_true rfl) fun w κ X hk hnm => ?_
  refine r_aload_n (pc := 0) X dX7_with_0 rfl ?_
  refine r_getr (pc := 1) X dX7_with_1 tf_7_25 rfl (kc_23 C) (rc_23_3 C) ?_
  refine r_iload_n (pc := 4) X dX7_with_4 rfl ?_
  refine r_c0_1P (pc := 5) X rfl dX7_with_5 tc_7_68 mm_X5_has (kc_25 C) rfl rfl (u_has (d + 7) p R) (Nat.le_of_ble_eq_true rfl) ?_
  refine r_if_neB (pc := 8) X dX7_with_8 (tgt := 13) (by decide) (fun c8 => ?_) (fun c8 => ?_)
  · refine r_aload_n (pc := 13) X dX7_with_13 rfl ?_
    refine r_getr (pc := 14) X dX7_with_14 tf_7_25 rfl (kc_23 C) (rc_23_3 C) ?_
    refine r_getiW (pc := 17) X dX7_with_17 tf_7_100 rfl (kc_25 C) (R.a0 7) ?_
    refine r_istore_n (pc := 20) X dX7_with_20 (Nat.le_of_ble_eq_true rfl) ?_
    refine r_aload_n (pc := 21) X dX7_with_21 rfl ?_
    refine r_getr (pc := 22) X dX7_with_22 tf_7_25 rfl (kc_23 C) (rc_23_3 C) ?_
    refine r_iload_n (pc := 25) X dX7_with_25 rfl ?_
    refine r_c0_1VW (pc := 26) X rfl dX7_with_26 tc_7_104 mm_X5_hand (kc_25 C) rfl rfl (u_hand (d + 7) p R O) (Nat.le_of_ble_eq_true rfl) (fun M26 q26 => ?_)
    refine r_iload_n (pc := 29) X dX7_with_29 rfl ?_
    refine r_iret (pc := 30) X dX7_with_30 rfl rfl ?_
    have q9 := q26
    refine ⟨QC.mk ?_ q9.1 q9.2, rfl⟩
    simp (decide := true) [f_with, c8]
  · refine r_iconst (pc := 11) (v := (-1)) X dX7_with_11 (by decide) ?_
    refine r_iret (pc := 12) X dX7_with_12 rfl rfl ?_
    refine ⟨QC.mk (σ1 := σ) ?_ R FR.rf, rfl⟩
    simp (decide := true) [f_with, c8]
set_option maxRecDepth 10000 in
set_option maxHeartbeats 4000000 in
theorem k_weight : ∀ (d : Nat) (n : Int32) {σ : SG} {h : hp_T} {M : Mem} {B0 : Nat} (R : CRep σ h M) (O : OK B0 σ), Ex (d + 8) nX7_weight [.ref 23, .int n] (wi h M) 0 0 (QC (f_weight σ n) h M) := by
  intro d n σ h M B0 R O
  have C := R.C
  refine Ex.of mm_X7_weight (Nat.le_of_ble_eq_true rfl) fun w κ X hk hnm => ?_
  refine r_iload_n (pc := 0) X dX7_weight_0 rfl ?_
  refine r_iconst (pc := 1) (v := (nI 0)) X dX7_weight_1 (by decide) ?_
  refine r_sipush (pc := 2) (v := (nI 999)) X dX7_weight_2 (by decide) ?_
  refine r_c1_3P (pc := 5) X rfl dX7_weight_5 tc_7_53 mm_X7_isWithin (e_in (d + 7) n (nI 0) (nI 999)) (Nat.le_of_ble_eq_true rfl) ?_
  refine r_if_neB (pc := 8) X dX7_weight_8 (tgt := 14) (by decide) (fun c8 => ?_) (fun c8 => ?_)
  · refine r_aload_n (pc := 14) X dX7_weight_14 rfl ?_
    refine r_getr (pc := 15) X dX7_weight_15 tf_7_25 rfl (kc_23 C) (rc_23_3 C) ?_
    refine r_getiW (pc := 18) X dX7_weight_18 tf_7_108 rfl (kc_25 C) (R.a0 8) ?_
    refine r_istore_n (pc := 21) X dX7_weight_21 (Nat.le_of_ble_eq_true rfl) ?_
    refine r_aload_n (pc := 22) X dX7_weight_22 rfl ?_
    refine r_getr (pc := 23) X dX7_weight_23 tf_7_25 rfl (kc_23 C) (rc_23_3 C) ?_
    refine r_iload_n (pc := 26) X dX7_weight_26 rfl ?_
    refine r_putiW (pc := 27) X dX7_weight_27 tf_7_108 rfl (Or.inl rfl) (kc_25 C) ⟨rfl, rfl⟩ ?_
    refine r_iload_n (pc := 30) X dX7_weight_30 rfl ?_
    refine r_iret (pc := 31) X dX7_weight_31 rfl rfl ?_
    have q9 := (R.u0 O (k := 8) (x := n) (by omega))
    refine ⟨QC.mk ?_ q9.1 q9.2, rfl⟩
    simp (decide := true) [f_weight, c8]
  · refine r_bipush (pc := 11) (v := (-2)) X dX7_weight_11 (by decide) ?_
    refine r_iret (pc := 13) X dX7_weight_13 rfl rfl ?_
    refine ⟨QC.mk (σ1 := σ) ?_ R FR.rf, rfl⟩
    simp (decide := true) [f_weight, c8]
theorem tx_add {T : TX} {M M1 : Mem} {s : Nat} (t : TxS T M) (hs : s < 128) (e : M1 = if 100 ≤ T.1 then M else mU (mU M 66 (upd (M 66) T.1 (nI s))) 65 (upd (M 65) 1 (nI (T.1 + 1)))) : TxS (txAdd T s) M1 ∧ ∀ b, b ≠ 65 → b ≠ 66 → b ≠ 67 → M1 b = M b := by
  unfold txAdd
  by_cases c : 100 ≤ T.1
  · rw [if_pos c] at e ⊢
    subst e
    exact ⟨t, fun _ _ _ _ => rfl⟩
  · rw [if_neg c] at e ⊢
    subst e
    refine ⟨⟨by rw [mU_eq]; rfl, by show T.1 + 1 ≤ 100; omega, fun i hi => ?_⟩, fun b h1 h2 h3 => by rw [mU_ne h1, mU_ne h2]⟩
    rw [mU_ne (by omega), mU_eq]
    show (if i = T.1 then nI s else M 66 i) = nI (if i = T.1 then s else T.2 i) ∧ (if i = T.1 then s else T.2 i) ≤ 127
    by_cases z : i = T.1
    · rw [if_pos z, if_pos z]
      exact ⟨rfl, by omega⟩
    · rw [if_neg z, if_neg z]
      have : i < T.1 + 1 := hi
      exact t.2.2 i (by omega)
set_option maxRecDepth 10000 in
set_option maxHeartbeats 4000000 in
theorem k_feed : ∀ (d : Nat) (x : Int32) {σ : SG} {h : hp_T} {M : Mem} {B0 : Nat} (R : CRep σ h M) (O : OK B0 σ), Ex (d + 8) nX7_feed [.ref 23, .int x] (wi h M) 0 0 (QC (f_feed σ x) h M) := by
  intro d x σ h M B0 R O
  have C := R.C
  refine Ex.of mm_X7_feed (Nat.le_of_ble_eq_true rfl) fun w κ X hk hnm => ?_
  refine r_iload_n (pc := 0) X dX7_feed_0 rfl ?_
  refine r_iconst (pc := 1) (v := (nI 0)) X dX7_feed_1 (by decide) ?_
  refine r_bipush (pc := 2) (v := (nI 127)) X dX7_feed_2 (by decide) ?_
  refine r_c1_3P (pc := 4) X rfl dX7_feed_4 tc_7_53 mm_X7_isWithin (e_in (d + 7) x (nI 0) (nI 127)) (Nat.le_of_ble_eq_true rfl) ?_
  refine r_if_neB (pc := 7) X dX7_feed_7 (tgt := 13) (by decide) (fun c7 => ?_) (fun c7 => ?_)
  · obtain ⟨t, -, ht, rfl⟩ := inF_lo c7 (by omega) (by omega)
    have ct := nI_clamp (show t < 2 ^ 31 by omega)
    refine r_aload_n (pc := 13) X dX7_feed_13 rfl ?_
    refine r_getr (pc := 14) X dX7_feed_14 tf_7_35 rfl (kc_23 C) (rc_23_5 C) ?_
    refine r_iload_n (pc := 17) X dX7_feed_17 rfl ?_
    refine r_c0_1IW (pc := 18) X rfl dX7_feed_18 tc_7_111 mm_X3_append (kc_65 C) rfl rfl (e_append (d + 7) t (sXt σ).1 C (by omega) R.tx.2.1 R.tx.1) (Nat.le_of_ble_eq_true rfl) (fun r18 M18 q18 => ?_)
    refine r_iret (pc := 21) X dX7_feed_21 rfl rfl ?_
    obtain ⟨rfl, q2⟩ := q18
    have q3 := tx_add R.tx (by omega) q2
    have q9 := (R.setTx q3.2 q3.1)
    refine ⟨QC.mk ?_ q9.1 q9.2, rfl⟩
    simp (decide := true) [f_feed, ct, c7]
  · refine r_bipush (pc := 10) (v := (-2)) X dX7_feed_10 (by decide) ?_
    refine r_iret (pc := 12) X dX7_feed_12 rfl rfl ?_
    refine ⟨QC.mk (σ1 := σ) ?_ R FR.rf, rfl⟩
    simp (decide := true) [f_feed, c7]
set_option maxRecDepth 10000 in
set_option maxHeartbeats 4000000 in
theorem k_told : ∀ (d : Nat) (x : Int32) {σ : SG} {h : hp_T} {M : Mem} {B0 : Nat} (R : CRep σ h M) (O : OK B0 σ), Ex (d + 8) nX7_told [.ref 23, .int x] (wi h M) 0 0 (QC (f_told σ x) h M) := by
  intro d x σ h M B0 R O
  have C := R.C
  refine Ex.of mm_X7_told (Nat.le_of_ble_eq_true rfl) fun w κ X hk hnm => ?_
  refine r_iload_n (pc := 0) X dX7_told_0 rfl ?_
  refine sw_X7_told_1 X (fun z1 => ?_) (fun z1 => ?_) (fun z1 => ?_) (fun z1 => ?_) (fun z1 => ?_) (fun z1 => ?_) (fun z1 => ?_)
  · refine r_aload_n (pc := 40) X dX7_told_40 rfl ?_
    refine r_getr (pc := 41) X dX7_told_41 tf_7_25 rfl (kc_23 C) (rc_23_3 C) ?_
    refine r_getiW (pc := 44) X dX7_told_44 tf_7_129 rfl (kc_25 C) (R.a0 9) ?_
    refine r_iret (pc := 47) X dX7_told_47 rfl rfl ?_
    refine ⟨QC.mk (σ1 := σ) ?_ R FR.rf, rfl⟩
    simp (decide := true) [f_told, z1]
  · refine r_aload_n (pc := 48) X dX7_told_48 rfl ?_
    refine r_getr (pc := 49) X dX7_told_49 tf_7_25 rfl (kc_23 C) (rc_23_3 C) ?_
    refine r_c0_0P (pc := 52) X rfl dX7_told_52 tc_7_132 mm_X5_holder (kc_25 C) rfl rfl (u_holder (d + 7) R) (Nat.le_of_ble_eq_true rfl) ?_
    refine r_iret (pc := 55) X dX7_told_55 rfl rfl ?_
    refine ⟨QC.mk (σ1 := σ) ?_ R FR.rf, rfl⟩
    simp (decide := true) [f_told, z1]
  · refine r_aload_n (pc := 56) X dX7_told_56 rfl ?_
    refine r_getr (pc := 57) X dX7_told_57 tf_7_25 rfl (kc_23 C) (rc_23_3 C) ?_
    refine r_getiW (pc := 60) X dX7_told_60 tf_7_108 rfl (kc_25 C) (R.a0 8) ?_
    refine r_iret (pc := 63) X dX7_told_63 rfl rfl ?_
    refine ⟨QC.mk (σ1 := σ) ?_ R FR.rf, rfl⟩
    simp (decide := true) [f_told, z1]
  · refine r_aload_n (pc := 64) X dX7_told_64 rfl ?_
    refine r_getr (pc := 65) X dX7_told_65 tf_7_25 rfl (kc_23 C) (rc_23_3 C) ?_
    refine r_getiW (pc := 68) X dX7_told_68 tf_7_135 rfl (kc_25 C) (R.a0 10) ?_
    refine r_iret (pc := 71) X dX7_told_71 rfl rfl ?_
    refine ⟨QC.mk (σ1 := σ) ?_ R FR.rf, rfl⟩
    simp (decide := true) [f_told, z1]
  · refine r_aload_n (pc := 72) X dX7_told_72 rfl ?_
    refine r_getr (pc := 73) X dX7_told_73 tf_7_25 rfl (kc_23 C) (rc_23_3 C) ?_
    refine r_c0_0P (pc := 76) X rfl dX7_told_76 tc_7_138 mm_X5_far (kc_25 C) rfl rfl (u_far (d + 7) R O) (Nat.le_of_ble_eq_true rfl) ?_
    refine r_iret (pc := 79) X dX7_told_79 rfl rfl ?_
    refine ⟨QC.mk (σ1 := σ) ?_ R FR.rf, rfl⟩
    simp (decide := true) [f_told, z1]
  · refine r_aload_n (pc := 80) X dX7_told_80 rfl ?_
    refine r_getr (pc := 81) X dX7_told_81 tf_7_25 rfl (kc_23 C) (rc_23_3 C) ?_
    refine r_c0_0P (pc := 84) X rfl dX7_told_84 tc_7_141 mm_X5_cost (kc_25 C) rfl rfl (u_cost (d + 7) R O) (Nat.le_of_ble_eq_true rfl) ?_
    refine r_iret (pc := 87) X dX7_told_87 rfl rfl ?_
    refine ⟨QC.mk (σ1 := σ) ?_ R FR.rf, rfl⟩
    simp (decide := true) [f_told, z1]
  · refine r_iconst (pc := 88) (v := (-1)) X dX7_told_88 (by decide) ?_
    refine r_iret (pc := 89) X dX7_told_89 rfl rfl ?_
    refine ⟨QC.mk (σ1 := σ) ?_ R FR.rf, rfl⟩
    simp (decide := true) [f_told, z1]
set_option maxRecDepth 10000 in
set_option maxHeartbeats 4000000 in
theorem k_step : ∀ (d : Nat) {σ : SG} {h : hp_T} {M : Mem} {B0 : Nat} (R : CRep σ h M) (O : OK B0 σ) (hB : B0 + 2 ≤ 1000000), Ex (d + 8) nX7_step [.ref 23] (wi h M) 0 0 (QC (f_step σ) h M) := by
  intro d σ h M B0 R O hB
  have C := R.C
  refine Ex.of mm_X7_step (Nat.le_of_ble_eq_true rfl) fun w κ X hk hnm => ?_
  refine r_aload_n (pc := 0) X dX7_step_0 rfl ?_
  refine r_getr (pc := 1) X dX7_step_1 tf_7_25 rfl (kc_23 C) (rc_23_3 C) ?_
  refine r_getiW (pc := 4) X dX7_step_4 tf_7_129 rfl (kc_25 C) (R.a0 9) ?_
  refine r_sipush (pc := 7) (v := (nI 9999)) X dX7_step_7 (by decide) ?_
  refine r_icmp_lt (pc := 10) X dX7_step_10 (tgt := 16) (by decide) (fun c10 => ?_) (fun c10 => ?_)
  · refine r_aload_n (pc := 16) X dX7_step_16 rfl ?_
    refine r_getr (pc := 17) X dX7_step_17 tf_7_25 rfl (kc_23 C) (rc_23_3 C) ?_
    refine r_c0_0IW (pc := 20) X rfl dX7_step_20 tc_7_144 mm_X5_move (kc_25 C) rfl rfl (u_move (d + 3) R O hB) (Nat.le_of_ble_eq_true rfl) (fun r20 M20 q20 => ?_)
    refine r_iret (pc := 23) X dX7_step_23 rfl rfl ?_
    obtain ⟨rfl, q1⟩ := q20
    have q9 := q1
    refine ⟨QC.mk ?_ q9.1 q9.2, rfl⟩
    simp (decide := true) [f_step, c10]
  · refine r_bipush (pc := 13) (v := (-3)) X dX7_step_13 (by decide) ?_
    refine r_iret (pc := 15) X dX7_step_15 rfl rfl ?_
    refine ⟨QC.mk (σ1 := σ) ?_ R FR.rf, rfl⟩
    simp (decide := true) [f_step, c10]
set_option maxRecDepth 10000 in
set_option maxHeartbeats 4000000 in
theorem k_on : ∀ (d : Nat) (n x : Int32) {σ : SG} {h : hp_T} {M : Mem} {B0 : Nat} (R : CRep σ h M) (O : OK B0 σ) (hB : B0 + 2000 ≤ 1000000), Ex (d + 8) nX7_on [.ref 23, .int n, .int x] (wi h M) 0 0 (QC (f_on σ n x) h M) := by
  intro d n x σ h M B0 R O hB
  have C := R.C
  refine Ex.of mm_X7_on (Nat.le_of_ble_eq_true rfl) fun w κ X hk hnm => ?_
  refine r_aload_n (pc := 0) X dX7_on_0 rfl ?_
  refine r_getr (pc := 1) X dX7_on_1 tf_7_25 rfl (kc_23 C) (rc_23_3 C) ?_
  refine r_iload_n (pc := 4) X dX7_on_4 rfl ?_
  refine r_bipush (pc := 5) (v := (nI 10)) X dX7_on_5 (by decide) ?_
  refine r_isub (pc := 7) X dX7_on_7 ?_
  refine r_c0_1P (pc := 8) X rfl dX7_on_8 tc_7_68 mm_X5_has (kc_25 C) rfl rfl (u_has (d + 7) (x - nI 10) R) (Nat.le_of_ble_eq_true rfl) ?_
  refine r_istore_n (pc := 11) X dX7_on_11 (Nat.le_of_ble_eq_true rfl) ?_
  refine r_aload_n (pc := 12) X dX7_on_12 rfl ?_
  refine r_getr (pc := 13) X dX7_on_13 tf_7_25 rfl (kc_23 C) (rc_23_3 C) ?_
  refine r_iload_n (pc := 16) X dX7_on_16 rfl ?_
  refine r_bipush (pc := 17) (v := (nI 20)) X dX7_on_17 (by decide) ?_
  refine r_isub (pc := 19) X dX7_on_19 ?_
  refine r_c0_1P (pc := 20) X rfl dX7_on_20 tc_7_68 mm_X5_has (kc_25 C) rfl rfl (u_has (d + 7) (x - nI 20) R) (Nat.le_of_ble_eq_true rfl) ?_
  refine r_istore (pc := 23) X dX7_on_23 (Nat.le_of_ble_eq_true rfl) ?_
  refine r_iload_n (pc := 25) X dX7_on_25 rfl ?_
  refine r_iconst (pc := 26) (v := (nI 0)) X dX7_on_26 (by decide) ?_
  refine r_iconst (pc := 27) (v := (nI 2)) X dX7_on_27 (by decide) ?_
  refine r_c1_3P (pc := 28) X rfl dX7_on_28 tc_7_53 mm_X7_isWithin (e_in (d + 7) x (nI 0) (nI 2)) (Nat.le_of_ble_eq_true rfl) ?_
  refine r_if_neB (pc := 31) X dX7_on_31 (tgt := 45) (by decide) (fun c31 => ?_) (fun c31 => ?_)
  · refine r_iload_n (pc := 45) X dX7_on_45 rfl ?_
    refine r_iconst (pc := 46) (v := (nI 0)) X dX7_on_46 (by decide) ?_
    refine r_bipush (pc := 47) (v := (nI 99)) X dX7_on_47 (by decide) ?_
    refine r_c1_3P (pc := 49) X rfl dX7_on_49 tc_7_53 mm_X7_isWithin (e_in (d + 7) n (nI 0) (nI 99)) (Nat.le_of_ble_eq_true rfl) ?_
    refine r_if_neB (pc := 52) X dX7_on_52 (tgt := 58) (by decide) (fun c52 => ?_) (fun c52 => ?_)
    · obtain ⟨t, -, ht, rfl⟩ := inF_lo c52 (by omega) (by omega)
      have ct := nI_clamp (show t < 2 ^ 31 by omega)
      refine r_aload_n (pc := 58) X dX7_on_58 rfl ?_
      refine r_getr (pc := 59) X dX7_on_59 tf_7_29 rfl (kc_23 C) (rc_23_4 C) ?_
      refine r_aload_n (pc := 62) X dX7_on_62 rfl ?_
      refine r_getr (pc := 63) X dX7_on_63 tf_7_25 rfl (kc_23 C) (rc_23_3 C) ?_
      refine r_c0_1G (pc := 66) X rfl dX7_on_66 tc_7_147 mm_X5_become (kc_58 C) rfl rfl (t_become (d + 6) R) (Nat.le_of_ble_eq_true rfl) (fun v66 g66 q66 => ?_)
      obtain ⟨M66, g66, rfl, rfl, T66, F66⟩ := q66
      have C := T66.R.C
      refine r_aload_n (pc := 69) X dX7_on_69 rfl ?_
      refine r_getr (pc := 70) X dX7_on_70 tf_7_29 rfl (kc_23 C) (rc_23_4 C) ?_
      refine r_iload_n (pc := 73) X dX7_on_73 rfl ?_
      refine r_c0_1VW (pc := 74) X rfl dX7_on_74 tc_7_151 mm_X5_go (kc_58 C) rfl rfl (t_go (d + 2) t T66 O O.w O.z (by omega) (by omega)) (Nat.le_of_ble_eq_true rfl) (fun M74 q74 => ?_)
      obtain ⟨T74, F74⟩ := q74
      have F := F66.tr F74
      refine r_iload_n (pc := 77) X dX7_on_77 rfl ?_
      refine r_if_eqB (pc := 78) X dX7_on_78 (tgt := 94) (by decide) (fun c78 => ?_) (fun c78 => ?_)
      · refine r_iload (pc := 94) X dX7_on_94 rfl ?_
        refine r_if_eqB (pc := 96) X dX7_on_96 (tgt := 114) (by decide) (fun c96 => ?_) (fun c96 => ?_)
        · refine r_aload_n (pc := 114) X dX7_on_114 rfl ?_
          refine r_getr (pc := 115) X dX7_on_115 tf_7_29 rfl (kc_23 C) (rc_23_4 C) ?_
          refine r_iload_n (pc := 118) X dX7_on_118 rfl ?_
          refine r_c0_1P (pc := 119) X rfl dX7_on_119 tc_7_154 mm_X5_bucket (kc_58 C) rfl rfl (t_bucket (d + 6) x T74) (Nat.le_of_ble_eq_true rfl) ?_
          refine r_iret (pc := 122) X dX7_on_122 rfl rfl ?_
          refine ⟨QC.mk (σ1 := σ) ?_ T74.R F, F.1⟩
          simp (decide := true) [f_on, ct, c31, c52, c78, c96]
        · refine r_aload_n (pc := 99) X dX7_on_99 rfl ?_
          refine r_getr (pc := 100) X dX7_on_100 tf_7_29 rfl (kc_23 C) (rc_23_4 C) ?_
          refine r_getr (pc := 103) X dX7_on_103 tf_7_84 rfl (kc_58 C) (rc_58_4 C) ?_
          refine r_iload_n (pc := 106) X dX7_on_106 rfl ?_
          obtain ⟨p, hp, hp6, ep⟩ := has_nat O.w c96
          have cp := nI_clamp (show p < 2 ^ 31 by omega)
          refine r_bipush (pc := 107) (v := (nI 20)) X dX7_on_107 (by decide) ?_
          refine r_isub (pc := 109) X dX7_on_109 ?_
          refine r_ialdW (pc := 110) X dX7_on_110 (kc_63 C) ep hp6 (by omega) (T74.a5 p) ?_
          refine r_goto (pc := 111) X dX7_on_111 (tgt := 122) (by decide) ?_
          refine r_iret (pc := 122) X dX7_on_122 rfl rfl ?_
          have e9 : goF (EE σ) t (sV σ) 5 p = goF (EE σ) t (sV σ) 5 (x - nI 20).toNatClampNeg := by rw [ep, cp]
          rw [e9]
          refine ⟨QC.mk (σ1 := σ) ?_ T74.R F, F.1⟩
          simp (decide := true) [f_on, ct, c31, c52, c78, c96]
      · refine r_aload_n (pc := 81) X dX7_on_81 rfl ?_
        refine r_getr (pc := 82) X dX7_on_82 tf_7_29 rfl (kc_23 C) (rc_23_4 C) ?_
        refine r_getr (pc := 85) X dX7_on_85 tf_7_81 rfl (kc_58 C) (rc_58_3 C) ?_
        refine r_iload_n (pc := 88) X dX7_on_88 rfl ?_
        obtain ⟨p, hp, hp6, ep⟩ := has_nat O.w c78
        have cp := nI_clamp (show p < 2 ^ 31 by omega)
        refine r_bipush (pc := 89) (v := (nI 10)) X dX7_on_89 (by decide) ?_
        refine r_isub (pc := 91) X dX7_on_91 ?_
        refine r_ialdW (pc := 92) X dX7_on_92 (kc_62 C) ep hp6 (by omega) (T74.a4 p) ?_
        refine r_iret (pc := 93) X dX7_on_93 rfl rfl ?_
        have e9 : goF (EE σ) t (sV σ) 4 p = goF (EE σ) t (sV σ) 4 (x - nI 10).toNatClampNeg := by rw [ep, cp]
        rw [e9]
        refine ⟨QC.mk (σ1 := σ) ?_ T74.R F, F.1⟩
        simp (decide := true) [f_on, ct, c31, c52, c78]
    · refine r_bipush (pc := 55) (v := (-2)) X dX7_on_55 (by decide) ?_
      refine r_iret (pc := 57) X dX7_on_57 rfl rfl ?_
      refine ⟨QC.mk (σ1 := σ) ?_ R FR.rf, rfl⟩
      simp (decide := true) [f_on, c31, c52]
  · refine r_iload_n (pc := 34) X dX7_on_34 rfl ?_
    refine r_if_neB (pc := 35) X dX7_on_35 (tgt := 45) (by decide) (fun c35 => ?_) (fun c35 => ?_)
    · refine r_iload_n (pc := 45) X dX7_on_45 rfl ?_
      refine r_iconst (pc := 46) (v := (nI 0)) X dX7_on_46 (by decide) ?_
      refine r_bipush (pc := 47) (v := (nI 99)) X dX7_on_47 (by decide) ?_
      refine r_c1_3P (pc := 49) X rfl dX7_on_49 tc_7_53 mm_X7_isWithin (e_in (d + 7) n (nI 0) (nI 99)) (Nat.le_of_ble_eq_true rfl) ?_
      refine r_if_neB (pc := 52) X dX7_on_52 (tgt := 58) (by decide) (fun c52 => ?_) (fun c52 => ?_)
      · obtain ⟨t, -, ht, rfl⟩ := inF_lo c52 (by omega) (by omega)
        have ct := nI_clamp (show t < 2 ^ 31 by omega)
        refine r_aload_n (pc := 58) X dX7_on_58 rfl ?_
        refine r_getr (pc := 59) X dX7_on_59 tf_7_29 rfl (kc_23 C) (rc_23_4 C) ?_
        refine r_aload_n (pc := 62) X dX7_on_62 rfl ?_
        refine r_getr (pc := 63) X dX7_on_63 tf_7_25 rfl (kc_23 C) (rc_23_3 C) ?_
        refine r_c0_1G (pc := 66) X rfl dX7_on_66 tc_7_147 mm_X5_become (kc_58 C) rfl rfl (t_become (d + 6) R) (Nat.le_of_ble_eq_true rfl) (fun v66 g66 q66 => ?_)
        obtain ⟨M66, g66, rfl, rfl, T66, F66⟩ := q66
        have C := T66.R.C
        refine r_aload_n (pc := 69) X dX7_on_69 rfl ?_
        refine r_getr (pc := 70) X dX7_on_70 tf_7_29 rfl (kc_23 C) (rc_23_4 C) ?_
        refine r_iload_n (pc := 73) X dX7_on_73 rfl ?_
        refine r_c0_1VW (pc := 74) X rfl dX7_on_74 tc_7_151 mm_X5_go (kc_58 C) rfl rfl (t_go (d + 2) t T66 O O.w O.z (by omega) (by omega)) (Nat.le_of_ble_eq_true rfl) (fun M74 q74 => ?_)
        obtain ⟨T74, F74⟩ := q74
        have F := F66.tr F74
        refine r_iload_n (pc := 77) X dX7_on_77 rfl ?_
        refine r_if_eqB (pc := 78) X dX7_on_78 (tgt := 94) (by decide) (fun c78 => ?_) (fun c78 => ?_)
        · exact absurd (c78.symm.trans c35) (by decide)
        · refine r_aload_n (pc := 81) X dX7_on_81 rfl ?_
          refine r_getr (pc := 82) X dX7_on_82 tf_7_29 rfl (kc_23 C) (rc_23_4 C) ?_
          refine r_getr (pc := 85) X dX7_on_85 tf_7_81 rfl (kc_58 C) (rc_58_3 C) ?_
          refine r_iload_n (pc := 88) X dX7_on_88 rfl ?_
          obtain ⟨p, hp, hp6, ep⟩ := has_nat O.w c78
          have cp := nI_clamp (show p < 2 ^ 31 by omega)
          refine r_bipush (pc := 89) (v := (nI 10)) X dX7_on_89 (by decide) ?_
          refine r_isub (pc := 91) X dX7_on_91 ?_
          refine r_ialdW (pc := 92) X dX7_on_92 (kc_62 C) ep hp6 (by omega) (T74.a4 p) ?_
          refine r_iret (pc := 93) X dX7_on_93 rfl rfl ?_
          have e9 : goF (EE σ) t (sV σ) 4 p = goF (EE σ) t (sV σ) 4 (x - nI 10).toNatClampNeg := by rw [ep, cp]
          rw [e9]
          refine ⟨QC.mk (σ1 := σ) ?_ T74.R F, F.1⟩
          simp (decide := true) [f_on, ct, c31, c35, c52, c78]
      · refine r_bipush (pc := 55) (v := (-2)) X dX7_on_55 (by decide) ?_
        refine r_iret (pc := 57) X dX7_on_57 rfl rfl ?_
        refine ⟨QC.mk (σ1 := σ) ?_ R FR.rf, rfl⟩
        simp (decide := true) [f_on, c31, c35, c52]
    · refine r_iload (pc := 38) X dX7_on_38 rfl ?_
      refine r_if_neB (pc := 40) X dX7_on_40 (tgt := 45) (by decide) (fun c40 => ?_) (fun c40 => ?_)
      · refine r_iload_n (pc := 45) X dX7_on_45 rfl ?_
        refine r_iconst (pc := 46) (v := (nI 0)) X dX7_on_46 (by decide) ?_
        refine r_bipush (pc := 47) (v := (nI 99)) X dX7_on_47 (by decide) ?_
        refine r_c1_3P (pc := 49) X rfl dX7_on_49 tc_7_53 mm_X7_isWithin (e_in (d + 7) n (nI 0) (nI 99)) (Nat.le_of_ble_eq_true rfl) ?_
        refine r_if_neB (pc := 52) X dX7_on_52 (tgt := 58) (by decide) (fun c52 => ?_) (fun c52 => ?_)
        · obtain ⟨t, -, ht, rfl⟩ := inF_lo c52 (by omega) (by omega)
          have ct := nI_clamp (show t < 2 ^ 31 by omega)
          refine r_aload_n (pc := 58) X dX7_on_58 rfl ?_
          refine r_getr (pc := 59) X dX7_on_59 tf_7_29 rfl (kc_23 C) (rc_23_4 C) ?_
          refine r_aload_n (pc := 62) X dX7_on_62 rfl ?_
          refine r_getr (pc := 63) X dX7_on_63 tf_7_25 rfl (kc_23 C) (rc_23_3 C) ?_
          refine r_c0_1G (pc := 66) X rfl dX7_on_66 tc_7_147 mm_X5_become (kc_58 C) rfl rfl (t_become (d + 6) R) (Nat.le_of_ble_eq_true rfl) (fun v66 g66 q66 => ?_)
          obtain ⟨M66, g66, rfl, rfl, T66, F66⟩ := q66
          have C := T66.R.C
          refine r_aload_n (pc := 69) X dX7_on_69 rfl ?_
          refine r_getr (pc := 70) X dX7_on_70 tf_7_29 rfl (kc_23 C) (rc_23_4 C) ?_
          refine r_iload_n (pc := 73) X dX7_on_73 rfl ?_
          refine r_c0_1VW (pc := 74) X rfl dX7_on_74 tc_7_151 mm_X5_go (kc_58 C) rfl rfl (t_go (d + 2) t T66 O O.w O.z (by omega) (by omega)) (Nat.le_of_ble_eq_true rfl) (fun M74 q74 => ?_)
          obtain ⟨T74, F74⟩ := q74
          have F := F66.tr F74
          refine r_iload_n (pc := 77) X dX7_on_77 rfl ?_
          refine r_if_eqB (pc := 78) X dX7_on_78 (tgt := 94) (by decide) (fun c78 => ?_) (fun c78 => ?_)
          · refine r_iload (pc := 94) X dX7_on_94 rfl ?_
            refine r_if_eqB (pc := 96) X dX7_on_96 (tgt := 114) (by decide) (fun c96 => ?_) (fun c96 => ?_)
            · exact absurd (c96.symm.trans c40) (by decide)
            · refine r_aload_n (pc := 99) X dX7_on_99 rfl ?_
              refine r_getr (pc := 100) X dX7_on_100 tf_7_29 rfl (kc_23 C) (rc_23_4 C) ?_
              refine r_getr (pc := 103) X dX7_on_103 tf_7_84 rfl (kc_58 C) (rc_58_4 C) ?_
              refine r_iload_n (pc := 106) X dX7_on_106 rfl ?_
              obtain ⟨p, hp, hp6, ep⟩ := has_nat O.w c96
              have cp := nI_clamp (show p < 2 ^ 31 by omega)
              refine r_bipush (pc := 107) (v := (nI 20)) X dX7_on_107 (by decide) ?_
              refine r_isub (pc := 109) X dX7_on_109 ?_
              refine r_ialdW (pc := 110) X dX7_on_110 (kc_63 C) ep hp6 (by omega) (T74.a5 p) ?_
              refine r_goto (pc := 111) X dX7_on_111 (tgt := 122) (by decide) ?_
              refine r_iret (pc := 122) X dX7_on_122 rfl rfl ?_
              have e9 : goF (EE σ) t (sV σ) 5 p = goF (EE σ) t (sV σ) 5 (x - nI 20).toNatClampNeg := by rw [ep, cp]
              rw [e9]
              refine ⟨QC.mk (σ1 := σ) ?_ T74.R F, F.1⟩
              simp (decide := true) [f_on, ct, c31, c35, c40, c52, c78, c96]
          · exact absurd (c78.symm.trans c35) (by decide)
        · refine r_bipush (pc := 55) (v := (-2)) X dX7_on_55 (by decide) ?_
          refine r_iret (pc := 57) X dX7_on_57 rfl rfl ?_
          refine ⟨QC.mk (σ1 := σ) ?_ R FR.rf, rfl⟩
          simp (decide := true) [f_on, c31, c35, c40, c52]
      · refine r_iconst (pc := 43) (v := (-1)) X dX7_on_43 (by decide) ?_
        refine r_iret (pc := 44) X dX7_on_44 rfl rfl ?_
        refine ⟨QC.mk (σ1 := σ) ?_ R FR.rf, rfl⟩
        simp (decide := true) [f_on, c31, c35, c40]
set_option maxRecDepth 10000 in
set_option maxHeartbeats 4000000 in
theorem k_ends : ∀ (d : Nat) {σ : SG} {h : hp_T} {M : Mem} {B0 : Nat} (R : CRep σ h M) (O : OK B0 σ) (hB : B0 + 2000 ≤ 1000000), Ex (d + 8) nX7_ends [.ref 23] (wi h M) 0 0 (QC (f_ends σ) h M) := by
  intro d σ h M B0 R O hB
  have C := R.C
  refine Ex.of mm_X7_ends (Nat.le_of_ble_eq_true rfl) fun w κ X hk hnm => ?_
  refine r_aload_n (pc := 0) X dX7_ends_0 rfl ?_
  refine r_getr (pc := 1) X dX7_ends_1 tf_7_29 rfl (kc_23 C) (rc_23_4 C) ?_
  refine r_aload_n (pc := 4) X dX7_ends_4 rfl ?_
  refine r_getr (pc := 5) X dX7_ends_5 tf_7_25 rfl (kc_23 C) (rc_23_3 C) ?_
  refine r_c0_1G (pc := 8) X rfl dX7_ends_8 tc_7_147 mm_X5_become (kc_58 C) rfl rfl (t_become (d + 6) R) (Nat.le_of_ble_eq_true rfl) (fun v8 g8 q8 => ?_)
  obtain ⟨M8, g8, rfl, rfl, T8, F8⟩ := q8
  have C := T8.R.C
  refine r_aload_n (pc := 11) X dX7_ends_11 rfl ?_
  refine r_getr (pc := 12) X dX7_ends_12 tf_7_29 rfl (kc_23 C) (rc_23_4 C) ?_
  refine r_c0_0IW (pc := 15) X rfl dX7_ends_15 tc_7_157 mm_X5_outlast (kc_58 C) rfl rfl (t_out (d + 2) T8 O O.w O.z (by omega)) (Nat.le_of_ble_eq_true rfl) (fun r15 M15 q15 => ?_)
  obtain ⟨rfl, R1, F1⟩ := q15
  refine r_istore_n (pc := 18) X dX7_ends_18 (Nat.le_of_ble_eq_true rfl) ?_
  refine r_iload_n (pc := 19) X dX7_ends_19 rfl ?_
  refine r_bipush (pc := 20) (v := (nI 99)) X dX7_ends_20 (by decide) ?_
  refine r_icmp_le (pc := 22) X dX7_ends_22 (tgt := 30) (by decide) (fun c22 => ?_) (fun c22 => ?_)
  · refine r_iload_n (pc := 30) X dX7_ends_30 rfl ?_
    refine r_iret (pc := 31) X dX7_ends_31 rfl rfl ?_
    have F := F8.tr F1
    have e9 : endN (EE σ) (sV σ) = outF (EE σ) 100 0 (sV σ) := rfl
    refine ⟨QC.mk (σ1 := σ) ?_ R1 F, F.1⟩
    simp (decide := true) [f_ends, e9, c22]
  · refine r_bipush (pc := 25) (v := (-5)) X dX7_ends_25 (by decide) ?_
    refine r_goto (pc := 27) X dX7_ends_27 (tgt := 31) (by decide) ?_
    refine r_iret (pc := 31) X dX7_ends_31 rfl rfl ?_
    have F := F8.tr F1
    have e9 : endN (EE σ) (sV σ) = outF (EE σ) 100 0 (sV σ) := rfl
    refine ⟨QC.mk (σ1 := σ) ?_ R1 F, F.1⟩
    simp (decide := true) [f_ends, e9, c22]
set_option maxRecDepth 10000 in
set_option maxHeartbeats 4000000 in
theorem l_longest : ∀ (d : Nat) {σ : SG} {h0 : hp_T} {M0 : Mem} {B0 : Nat} (O : OK B0 σ) (hB : B0 + 2000 ≤ 1000000) {w : wc_T} {κ : cx_T} {Φ : Option Value → hp_T → Prop} (X : CX w κ (d + 8) 7 cX7_longest 5 (some .int) Φ) {F : Nat → Int32} (hF : F = fun q => nI (endN (EE σ) (handF (sV σ) (nI q))))
    (hΦ : ∀ g M1, CRep σ g M1 → FR h0 M0 g M1 → Φ (some (.int (amax F (vP (sV σ))).1)) (wi g M1)),
    ∀ (m k : Nat) (g : hp_T) (M : Mem) (b l : Int32) (z : Option Value), k + m = vP (sV σ) → CRep σ g M → FR h0 M0 g M → amax F k = (b, l) → GG w κ 7 [some (.ref 23), some (.int b), some (.int l), some (.int (nI k)), z] [] (wi g M) := by
  intro d σ h0 M0 B0 O hB w κ Φ X FF hF hΦ m
  have h6 := O.w.2.1
  induction m with
  | zero =>
    intro k g M b l z hk R F hA
    have C := R.C
    have e : k = vP (sV σ) := by omega
    subst e
    rw [hA] at hΦ
    refine r_iload_n (pc := 7) X dX7_longest_7 rfl ?_
    refine r_aload_n (pc := 8) X dX7_longest_8 rfl ?_
    refine r_getr (pc := 9) X dX7_longest_9 tf_7_25 rfl (kc_23 C) (rc_23_3 C) ?_
    refine r_getiW (pc := 12) X dX7_longest_12 tf_7_160 rfl (kc_25 C) (R.pp O) ?_
    refine r_icmp_geN (pc := 15) X dX7_longest_15 (tgt := 49) (by decide) (by omega) (by omega) (fun c15 => ?_) (fun c15 => ?_)
    · refine r_iload_n (pc := 49) X dX7_longest_49 rfl ?_
      refine r_iret (pc := 50) X dX7_longest_50 rfl rfl ?_
      exact hΦ g M R F
    · exact absurd (Nat.le_refl _) c15
  | succ m ih =>
    intro k g M b l z hk R F hA
    have C := R.C
    have hkp : k < vP (sV σ) := by omega
    refine r_iload_n (pc := 7) X dX7_longest_7 rfl ?_
    refine r_aload_n (pc := 8) X dX7_longest_8 rfl ?_
    refine r_getr (pc := 9) X dX7_longest_9 tf_7_25 rfl (kc_23 C) (rc_23_3 C) ?_
    refine r_getiW (pc := 12) X dX7_longest_12 tf_7_160 rfl (kc_25 C) (R.pp O) ?_
    refine r_icmp_geN (pc := 15) X dX7_longest_15 (tgt := 49) (by decide) (by omega) (by omega) (fun c15 => ?_) (fun c15 => ?_)
    · exact absurd c15 (by omega)
    · refine r_aload_n (pc := 18) X dX7_longest_18 rfl ?_
      refine r_iload_n (pc := 19) X dX7_longest_19 rfl ?_
      refine r_c0_1G (pc := 20) X rfl dX7_longest_20 tc_7_163 mm_X7_startWith (kc_23 C) rfl rfl (t_start (d + 5) R O hkp) (Nat.le_of_ble_eq_true rfl) (fun v20 g20 q20 => ?_)
      obtain ⟨M20, g20, rfl, rfl, T20, F20⟩ := q20
      have C := T20.R.C
      refine r_aload_n (pc := 23) X dX7_longest_23 rfl ?_
      refine r_getr (pc := 24) X dX7_longest_24 tf_7_29 rfl (kc_23 C) (rc_23_4 C) ?_
      refine r_c0_0IW (pc := 27) X rfl dX7_longest_27 tc_7_157 mm_X5_outlast (kc_58 C) rfl rfl (t_out (d + 2) T20 O (O.w.handN hkp) O.z.hand (by omega)) (Nat.le_of_ble_eq_true rfl) (fun r27 M27 q27 => ?_)
      obtain ⟨rfl, R27, F27⟩ := q27
      refine r_istore (pc := 30) X dX7_longest_30 (Nat.le_of_ble_eq_true rfl) ?_
      refine r_iload (pc := 32) X dX7_longest_32 rfl ?_
      refine r_iload_n (pc := 34) X dX7_longest_34 rfl ?_
      refine r_icmp_le (pc := 35) X dX7_longest_35 (tgt := 43) (by decide) (fun c35 => ?_) (fun c35 => ?_)
      · refine r_iinc (pc := 43) X dX7_longest_43 rfl (by first | exact nI_i1 _ | rfl) ?_
        refine r_goto (pc := 46) X dX7_longest_46 (tgt := 7) (by decide) ?_
        exact ih (k + 1) g20 M27 _ _ _ (by omega) R27 ((F.tr F20).tr F27) (by subst hF; simp only [amax, hA]; exact if_pos c35)
      · refine r_iload (pc := 38) X dX7_longest_38 rfl ?_
        refine r_istore_n (pc := 40) X dX7_longest_40 (Nat.le_of_ble_eq_true rfl) ?_
        refine r_iload_n (pc := 41) X dX7_longest_41 rfl ?_
        refine r_istore_n (pc := 42) X dX7_longest_42 (Nat.le_of_ble_eq_true rfl) ?_
        refine r_iinc (pc := 43) X dX7_longest_43 rfl (by first | exact nI_i1 _ | rfl) ?_
        refine r_goto (pc := 46) X dX7_longest_46 (tgt := 7) (by decide) ?_
        exact ih (k + 1) g20 M27 _ _ _ (by omega) R27 ((F.tr F20).tr F27) (by subst hF; simp only [amax, hA]; exact if_neg c35)
set_option maxRecDepth 10000 in
set_option maxHeartbeats 4000000 in
theorem k_longest : ∀ (d : Nat) {σ : SG} {h : hp_T} {M : Mem} {B0 : Nat} (R : CRep σ h M) (O : OK B0 σ) (hB : B0 + 2000 ≤ 1000000), Ex (d + 8) nX7_longest [.ref 23] (wi h M) 0 0 (QC (f_longest σ) h M) := by
  intro d σ h M B0 R O hB
  refine Ex.of mm_X7_longest (Nat.le_of_ble_eq_true rfl) fun w κ X hk hnm => ?_
  refine r_bipush (pc := 0) (v := (-5)) X dX7_longest_0 (by decide) ?_
  refine r_istore_n (pc := 2) X dX7_longest_2 (Nat.le_of_ble_eq_true rfl) ?_
  refine r_iconst (pc := 3) (v := (-1)) X dX7_longest_3 (by decide) ?_
  refine r_istore_n (pc := 4) X dX7_longest_4 (Nat.le_of_ble_eq_true rfl) ?_
  refine r_iconst (pc := 5) (v := (nI 0)) X dX7_longest_5 (by decide) ?_
  refine r_istore_n (pc := 6) X dX7_longest_6 (Nat.le_of_ble_eq_true rfl) ?_
  exact l_longest d O hB X rfl (fun g M1 R1 F1 => ⟨QC.mk rfl R1 F1, F1.1⟩) (vP (sV σ)) 0 h M _ _ _ (by omega) R FR.rf rfl
