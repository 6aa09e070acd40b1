/-! the street and the trial, by the state -/
theorem has_nat {x : Int32} {V : VT} {B : Nat} (hW : WF B V) (h : hasF x (V 0 6) = true) : ∃ p, p < vP V ∧ p < 6 ∧ x = nI p := by
  unfold hasF at h
  rw [Bool.and_eq_true] at h
  obtain ⟨h1, h2⟩ := h
  simp only [Bool.not_eq_true', decide_eq_false_iff_not] at h1 h2
  obtain ⟨p, hp, e⟩ := nI_of h1
  subst e
  rw [hW.1] at h2
  have := hW.2.1
  have hlt : p < vP V := Nat.not_le.mp fun z => h2 (nI_le z hp)
  exact ⟨p, hlt, by omega, rfl⟩
theorem has_of {p : Nat} {V : VT} {B : Nat} (hW : WF B V) (h : p < vP V) : hasF (nI p) (V 0 6) = true := by
  have := hW.2.1
  unfold hasF
  rw [hW.1, decide_eq_false (nI_pos (by omega)), decide_eq_false (nI_ge h (by omega))]
  rfl
section U26
variable {σ : SG} {h g : hp_T} {M : Mem} {V : VT} {B B0 : Nat}
theorem u_has (d : Nat) (x : Int32) (R : CRep σ h M) : Ep d nX5_has [.ref 25, .int x] (wi h M) (.int (b2 (hasF x (sV σ 0 6)))) := by
  have := e_has d (h := wi h M) x (st_25 R.C)
  rw [show Sv (h_i (wi h M)) 25 = sV σ from R.v] at this
  exact this
theorem u_holder (d : Nat) (R : CRep σ h M) : Ep d nX5_holder [.ref 25] (wi h M) (.int (holdF (sV σ))) := by
  have := e_holder d (h := wi h M) (st_25 R.C)
  rw [show Sv (h_i (wi h M)) 25 = sV σ from R.v] at this
  exact this
theorem u_far (d : Nat) (R : CRep σ h M) (O : OK B0 σ) : Ep d nX5_far [.ref 25] (wi h M) (.int (EE σ).1) := e_far d (h := wi h M) (st_25 R.C) (evC_of R O R.e11)
theorem u_cost (d : Nat) (R : CRep σ h M) (O : OK B0 σ) : Ep d nX5_cost [.ref 25] (wi h M) (.int (EE σ).2.1) := e_cost d (h := wi h M) (st_25 R.C) (evC_of R O R.e11)
theorem u_reach (d : Nat) {p : Nat} (R : CRep σ h M) (O : OK B0 σ) (hp : p < 6) : Ep (d + 1) nX5_reach [.ref 25, .int (nI p)] (wi h M) (.int (reachF (EE σ) (sV σ) p)) := by
  have := e_reach d (h := wi h M) (B := B0) (st_25 R.C) (evC_of R O R.e11) (by rw [show Sv (h_i (wi h M)) 25 = sV σ from R.v]; exact O.w) hp
  rw [show Sv (h_i (wi h M)) 25 = sV σ from R.v] at this
  exact this
theorem u_target (d : Nat) {p : Nat} (R : CRep σ h M) (O : OK B0 σ) (hp : p < 6) : Ep (d + 3) nX5_target [.ref 25, .int (nI p)] (wi h M) (.int (enc5 (targetF (EE σ) (sV σ) p))) := by
  have := e_target d (h := wi h M) (B := B0) (st_25 R.C) (evC_of R O R.e11) (by rw [show Sv (h_i (wi h M)) 25 = sV σ from R.v]; exact O.w) hp
  rw [show Sv (h_i (wi h M)) 25 = sV σ from R.v] at this
  exact this
/-- the street itself changes -/
theorem CRep.street (R : CRep σ h M) {V1 : VT} {M1 : Mem} (p : pS M 25 V1 M1) (hz : ZV V1) : CRep (setV σ V1) h M1 ∧ FR h M h M1 := by
  have k := p.2
  refine ⟨⟨R.C, ⟨p.1, R.e11, R.se.kept fun q h1 h2 => k q (by omega), R.ga.kept fun q h1 h2 => k q (by omega), R.bo.kept fun q h1 h2 => k q (by omega)⟩, ⟨by rw [p.1]; exact hz, R.hy.2.1.kept fun q h1 h2 => k q (by omega), R.hy.2.2.1.kept fun q h1 h2 => k q (by omega), R.hy.2.2.2.kept fun q h1 h2 => k q (by omega)⟩, ?_, R.hk.kept (fun q h1 h2 => k q (by omega)) (fun q h1 h2 => k q (by omega)) (by omega) (by omega), ?_, ?_, ?_, ?_, ?_⟩, FR.m fun b h1 h2 => k b (by omega)⟩
  · refine ⟨fun e => by rw [k 23 (by omega)]; exact R.im.1 e, fun s e => ⟨by rw [k 23 (by omega)]; exact (R.im.2 s e).1, ?_⟩⟩
    exact (R.im.2 s e).2.kept (fun q h1 h2 => k q (by omega)) (fun q h1 h2 => k q (by omega)) (by omega) (by omega) rfl
  · rw [Sv_same fun f hf => k (58 + f) (by omega)]
    exact R.tz
  · refine ⟨by rw [k 23 (by omega)]; exact R.ev.1, R.ev.2.1, fun j hj => (R.ev.2.2 j hj).kept (k _ (by omega)) (k _ (by omega)) rfl (Nat.le_refl _) rfl⟩
  · unfold TxS
    rw [k 65 (by omega), k 66 (by omega)]
    exact R.tx
  · unfold BlC
    rw [k 68 (by omega), k 69 (by omega)]
    exact R.bl
  · show (M1 71, M1 72, _) = _
    rw [k 71 (by omega), k 72 (by omega)]
    exact R.tp
theorem u_rain (d : Nat) {p : Nat} (R : CRep σ h M) (O : OK B0 σ) (hp : p < 6) : Ei (d + 2) nX5_rain [.ref 25, .int (nI p)] (wi h M) (fun r M1 => r = rainF (EE σ) (sV σ) p ∧ CRep σ h M1 ∧ FR h M h M1) :=
  Ex.imp (e_rain d (st_25 R.C) (evC_of R O R.e11) (evD_of R O (by omega) R.e11) hp) (fun v2 h2 q => by
    obtain ⟨r, M1, rfl, rfl, rfl, q2⟩ := q
    have e : sV σ = Sv M 25 := R.v.symm
    have q3 := R.street q2 R.hy.1
    rw [← e] at q3
    exact ⟨_, M1, rfl, rfl, by rw [e], q3⟩)
theorem u_move (d : Nat) (R : CRep σ h M) (O : OK B0 σ) (hB : B0 + 2 ≤ 1000000) : Ei (d + 4) nX5_move [.ref 25] (wi h M) (fun r M1 => r = (moveF (EE σ) (sV σ)).1 ∧ CRep (setV σ (moveF (EE σ) (sV σ)).2) h M1 ∧ FR h M h M1) :=
  Ex.imp (e_move d (B := B0) (st_25 R.C) (evC_of R O R.e11) (evD_of R O (by omega) R.e11) (by rw [R.v]; exact O.w) O.ew) (fun v2 h2 q => by
    obtain ⟨r, M1, rfl, rfl, rfl, q2⟩ := q
    rw [R.v] at q2 ⊢
    exact ⟨_, M1, rfl, rfl, rfl, R.street q2 (O.z.move O.w)⟩)
theorem u_hand (d : Nat) (x : Int32) (R : CRep σ h M) (O : OK B0 σ) : Ev d nX5_hand [.ref 25, .int x] (wi h M) (fun M1 => CRep (setV σ (handF (sV σ) x)) h M1 ∧ FR h M h M1) :=
  Ex.imp (e_hand d x (st_25 R.C)) (fun v2 h2 q => by
    obtain ⟨M1, rfl, rfl, q2⟩ := q
    rw [R.v] at q2
    exact ⟨M1, rfl, rfl, R.street q2 ((O.z.U (by omega)).U (by omega))⟩)
theorem ZV.join {a b c e : Int32} (z : ZV V) (hW : WF B V) : ZV (joinF V a b c e).2 := by
  unfold joinF
  split
  · rename_i c1
    rw [hW.1] at c1
    have h6 := hW.2.1
    have := (nI_ltI (by omega) (by omega)).mp c1
    exact ((((z.U (by omega)).U (by omega)).U (by omega)).U (by omega)).U (by omega)
  · exact z
theorem u_join (d : Nat) (a b c e : Int32) (R : CRep σ h M) (O : OK B0 σ) : Ei d nX5_join [.ref 25, .int a, .int b, .int c, .int e] (wi h M) (fun r M1 => r = (joinF (sV σ) a b c e).1 ∧ CRep (setV σ (joinF (sV σ) a b c e).2) h M1 ∧ FR h M h M1) :=
  Ex.imp (e_join d a b c e (B := B0) (st_25 R.C) (by rw [R.v]; exact O.w)) (fun v2 h2 q => by
    obtain ⟨r, M1, rfl, rfl, rfl, q2⟩ := q
    rw [R.v] at q2 ⊢
    exact ⟨_, M1, rfl, rfl, rfl, R.street q2 (O.z.join O.w)⟩)
/-! the trial -/
theorem TS.u0 (T : TS σ g M V) {k : Nat} {x : Int32} (hk : 6 ≤ k ∧ k ≤ 10) (hz : ZV V) : TS σ g (mU M 58 (upd (M 58) k x)) (vU V 0 k x) ∧ FR g M g (mU M 58 (upd (M 58) k x)) := by
  have e := T.2.1
  subst e
  exact T.pS pS.rf.u0 (hz.U (by omega))
theorem TS.uf (T : TS σ g M V) {f k : Nat} {x : Int32} (hf : 1 ≤ f ∧ f ≤ 5) (hk : k < 6) (hz : ZV V) : TS σ g (mU M (58 + f) (upd (M (58 + f)) k x)) (vU V f k x) ∧ FR g M g (mU M (58 + f) (upd (M (58 + f)) k x)) := by
  have e := T.2.1
  subst e
  exact T.pS (pS.rf.uf (by omega)) (hz.U (by omega))
theorem t_go (d n : Nat) (T : TS σ g M V) (O : OK B0 σ) (hW : WF B V) (hz : ZV V) (hn : n ≤ 1000) (hB : B + 2 * n ≤ 1000000) : Ev (d + 5) nX5_go [.ref 58, .int (nI n)] (wi g M) (fun M1 => TS σ g M1 (goF (EE σ) n V) ∧ FR g M g M1) := by
  have e := T.2.1
  subst e
  refine Ex.imp (e_go d n (st_58 T.R.C) (T.e O) (T.d O) hW O.ew hn hB) (fun v2 h2 q => ?_)
  obtain ⟨M1, rfl, rfl, q2⟩ := q
  exact ⟨M1, rfl, rfl, T.pS q2 (hz.goes O.ew n hW hB)⟩
theorem t_out (d : Nat) (T : TS σ g M V) (O : OK B0 σ) (hW : WF B V) (hz : ZV V) (hB : B + 200 ≤ 1000000) : Ei (d + 5) nX5_outlast [.ref 58] (wi g M) (fun r M1 => r = nI (outF (EE σ) 100 0 V) ∧ CRep σ g M1 ∧ FR g M g M1) := by
  have e := T.2.1
  subst e
  refine Ex.imp (e_out d (st_58 T.R.C) (T.e O) (T.d O) hW O.ew hB) (fun v2 h2 q => ?_)
  obtain ⟨r, M1, rfl, rfl, rfl, V1, q2, q3⟩ := q
  have z := T.pS q2 (q3 hz)
  exact ⟨_, M1, rfl, rfl, rfl, z.1.R, z.2⟩
theorem t_move (d : Nat) (T : TS σ g M V) (O : OK B0 σ) (hW : WF B V) (hz : ZV V) (hB : B + 2 ≤ 1000000) : Ei (d + 4) nX5_move [.ref 58] (wi g M) (fun r M1 => TS σ g M1 (moveF (EE σ) V).2 ∧ FR g M g M1) := by
  have e := T.2.1
  subst e
  refine Ex.imp (e_move d (st_58 T.R.C) (T.e O) (T.d O) hW O.ew) (fun v2 h2 q => ?_)
  obtain ⟨r, M1, rfl, rfl, -, q2⟩ := q
  exact ⟨_, M1, rfl, rfl, T.pS q2 (hz.move hW)⟩
theorem t_hand (d : Nat) (x : Int32) (T : TS σ g M V) (hz : ZV V) : Ev d nX5_hand [.ref 58, .int x] (wi g M) (fun M1 => TS σ g M1 (handF V x) ∧ FR g M g M1) := by
  have e := T.2.1
  subst e
  refine Ex.imp (e_hand d x (st_58 T.R.C)) (fun v2 h2 q => ?_)
  obtain ⟨M1, rfl, rfl, q2⟩ := q
  exact ⟨M1, rfl, rfl, T.pS q2 ((hz.U (by omega)).U (by omega))⟩
theorem ZV.play {E : EV} {x y : Int32} (hz : ZV V) (hW : WF B V) : ZV (playF E V x y) := by
  unfold playF
  split
  · exact hz.move hW
  · split
    · exact hz.U (by omega)
    · exact (hz.U (by omega)).U (by omega)
theorem t_play (d : Nat) (x y : Int32) (T : TS σ g M V) (O : OK B0 σ) (hW : WF B V) (hz : ZV V) : Ev (d + 5) nX5_play [.ref 58, .int x, .int y] (wi g M) (fun M1 => TS σ g M1 (playF (EE σ) V x y) ∧ FR g M g M1) := by
  have e := T.2.1
  subst e
  refine Ex.imp (e_play d x y (st_58 T.R.C) (T.e O) (T.d O) hW O.ew) (fun v2 h2 q => ?_)
  obtain ⟨M1, rfl, rfl, q2⟩ := q
  exact ⟨M1, rfl, rfl, T.pS q2 (hz.play hW)⟩
theorem t_bucket (d : Nat) (x : Int32) (T : TS σ g M V) : Ep (d + 1) nX5_bucket [.ref 58, .int x] (wi g M) (.int (buckF V x)) := by
  have e := T.2.1
  subst e
  exact e_bucket d x (st_58 T.R.C)
theorem t_holder (d : Nat) (T : TS σ g M V) : Ep d nX5_holder [.ref 58] (wi g M) (.int (holdF V)) := by
  have e := T.2.1
  subst e
  exact e_holder d (st_58 T.R.C)
theorem t_end (d : Nat) (T : TS σ g M V) : Ep d nX5_isAtEnd [.ref 58] (wi g M) (.int (b2 (endF V))) := by
  have e := T.2.1
  subst e
  exact e_isAtEnd d (st_58 T.R.C)
theorem t_way (d : Nat) {p q : Nat} (T : TS σ g M V) (hp : p < 6) (hq : q < 6) : Ep (d + 1) nX5_way [.ref 58, .int (nI p), .int (nI q)] (wi g M) (.int (wayF V p q)) := by
  have e := T.2.1
  subst e
  exact e_way d (st_58 T.R.C) hp hq
theorem t_reach (d : Nat) {p : Nat} (T : TS σ g M V) (O : OK B0 σ) (hW : WF B V) (hp : p < 6) : Ep (d + 1) nX5_reach [.ref 58, .int (nI p)] (wi g M) (.int (reachF (EE σ) V p)) := by
  have e := T.2.1
  subst e
  exact e_reach d (st_58 T.R.C) (T.e O) hW hp
theorem t_target (d : Nat) {p : Nat} (T : TS σ g M V) (O : OK B0 σ) (hW : WF B V) (hp : p < 6) : Ep (d + 3) nX5_target [.ref 58, .int (nI p)] (wi g M) (.int (enc5 (targetF (EE σ) V p))) := by
  have e := T.2.1
  subst e
  exact e_target d (st_58 T.R.C) (T.e O) hW hp
theorem WF.handN (hW : WF B V) {p : Nat} (hp : p < vP V) : WF B (handF V (nI p)) := (hW.withU hp).last5
theorem ZV.hand {x : Int32} (hz : ZV V) : ZV (handF V x) := (hz.U (by omega)).U (by omega)
theorem hand_P {x : Int32} : vP (handF V x) = vP V := by
  unfold handF
  rw [vP_U (by omega), vP_U (by omega)]
theorem go_P {E : EV} : ∀ (n : Nat) (V : VT), vP (goF E n V) = vP V := by
  intro n
  induction n with
  | zero => intro V; rfl
  | succ n ih => intro V; exact (ih _).trans move_P
theorem go_s {E : EV} : ∀ (n : Nat) (V : VT), goF E (n + 1) V = (moveF E (goF E n V)).2 := by
  intro n
  induction n with
  | zero => intro V; rfl
  | succ n ih => intro V; exact ih _
end U26
section RW26
variable {w : wc_T} {κ : cx_T} {d own nL : Nat} {cc : ByteArray} {rt : Option FieldType} {Φ : Option Value → hp_T → Prop} {pc : Nat} {L : List (Option Value)} {st : List Value} {h : hp_T}
theorem hdl {A B : hp_T} (e : A = B) (kk : GG w κ pc L st B) : GG w κ pc L st A := by rw [e]; exact kk
end RW26
set_option maxRecDepth 10000 in
set_option maxHeartbeats 4000000 in
theorem t_start : ∀ (d : Nat) {σ : SG} {g : hp_T} {M : Mem} {B0 p : Nat} (R : CRep σ g M) (O : OK B0 σ) (hp : p < vP (sV σ)), Ex (d + 2) nX7_startWith [.ref 23, .int (nI p)] (wi g M) 0 0 (fun v2 h2 => ∃ (M1 : Mem) (g1 : hp_T), v2 = none ∧ h2 = wi g1 M1 ∧ TS σ g1 M1 (handF (sV σ) (nI p)) ∧ FR g M g1 M1) := by
  intro d σ g M B0 p R O hp
  have C := R.C
  refine Ex.of mm_X7_startWith (Nat.le_of_ble_eq_true rfl) fun w κ X hk hnm => ?_
  refine r_aload_n (pc := 0) X dX7_startWith_0 rfl ?_
  refine r_getr (pc := 1) X dX7_startWith_1 tf_7_29 rfl (kc_23 C) (rc_23_4 C) ?_
  refine r_aload_n (pc := 4) X dX7_startWith_4 rfl ?_
  refine r_getr (pc := 5) X dX7_startWith_5 tf_7_25 rfl (kc_23 C) (rc_23_3 C) ?_
  refine r_c0_1G (pc := 8) X rfl dX7_startWith_8 tc_7_147 mm_X5_become (kc_58 C) rfl rfl (t_become d R) (Nat.le_of_ble_eq_true rfl) (fun v8 g8 q8 => ?_)
  obtain ⟨M8, g8, rfl, rfl, T8, F8⟩ := q8
  have C := T8.R.C
  refine r_aload_n (pc := 11) X dX7_startWith_11 rfl ?_
  refine r_getr (pc := 12) X dX7_startWith_12 tf_7_29 rfl (kc_23 C) (rc_23_4 C) ?_
  refine r_iload_n (pc := 15) X dX7_startWith_15 rfl ?_
  refine r_c0_1VW (pc := 16) X rfl dX7_startWith_16 tc_7_104 mm_X5_hand (kc_58 C) rfl rfl (t_hand (d + 1) (nI p) T8 O.z) (Nat.le_of_ble_eq_true rfl) (fun M16 q16 => ?_)
  refine r_vret (pc := 19) X dX7_startWith_19 rfl ?_
  exact ⟨⟨M16, g8, rfl, rfl, q16.1, F8.tr q16.2⟩, F8.1⟩
def soF (E : EV) (l : PL) (V : VT) : Bool := l.all (fun q => decide (holdF (goF E q.2.toNatClampNeg V) = q.1))
/-- rows of SEEN -/
def SnL (P : Nat) (l : PL) : Prop := l.length ≤ 6 ∧ ∀ i, i < l.length → ∃ p n, p < P ∧ n ≤ 60 ∧ pG l i = (nI p, nI n)
theorem pG_mem {l : PL} {i : Nat} (h : i < l.length) : pG l i ∈ l := by
  unfold pG
  rw [List.getD_eq_getElem?_getD, List.getElem?_eq_getElem h]
  exact List.getElem_mem h
theorem so_f {E : EV} {l : PL} {V : VT} {i p n : Nat} (hi : i < l.length) (e : pG l i = (nI p, nI n)) (hn : n ≤ 60) (hne : ¬ nI p = holdF (goF E n V)) : soF E l V = false := by
  cases hs : soF E l V
  · rfl
  · have := List.all_eq_true.mp hs (pG l i) (pG_mem hi)
    rw [e] at this
    simp only [decide_eq_true_eq] at this
    rw [nI_clamp (by omega)] at this
    exact absurd this.symm hne
theorem so_t {E : EV} {l : PL} {V : VT} {P : Nat} (hl : SnL P l) (h : ∀ i, i < l.length → ∀ p n, pG l i = (nI p, nI n) → n ≤ 60 → holdF (goF E n V) = nI p) : soF E l V = true := by
  refine List.all_eq_true.mpr fun q hq => ?_
  obtain ⟨i, hi, e⟩ := List.getElem_of_mem hq
  obtain ⟨p, n, hp, hn, e2⟩ := hl.2 i hi
  have e3 : pG l i = q := by
    unfold pG
    rw [List.getD_eq_getElem?_getD, List.getElem?_eq_getElem hi]
    exact e
  rw [e3] at e2
  rw [e2]
  simp only [decide_eq_true_eq]
  rw [nI_clamp (by omega)]
  exact h i hi p n (e3.trans e2) hn
set_option maxRecDepth 10000 in
set_option maxHeartbeats 4000000 in
theorem l_seenI : ∀ (d b : Nat) {σ : SG} {g : hp_T} {M : Mem} {V : VT} {P : Nat} (T : TS σ g M (goF (EE σ) b V)) (hl : SnL P (sSe σ)) (hP : P ≤ 6) (hb : b ≤ 60) {w : wc_T} {κ : cx_T} {Φ : Option Value → hp_T → Prop} (X : CX w κ (d + 5) 7 cX7_isAllSeenSo 3 (some .boolean) Φ)
    (hF : soF (EE σ) (sSe σ) V = false → Φ (some (.int (nI 0))) (wi g M)) (hT : (∀ i, i < (sSe σ).length → ∀ p, pG (sSe σ) i = (nI p, nI b) → holdF (goF (EE σ) b V) = nI p) → GG w κ 70 [some (.ref 23), some (.int (nI b)), some (.int (nI (sSe σ).length))] [] (wi g M)),
    ∀ m k : Nat, k + m = (sSe σ).length → (∀ i, i < k → ∀ p, pG (sSe σ) i = (nI p, nI b) → holdF (goF (EE σ) b V) = nI p) → GG w κ 10 [some (.ref 23), some (.int (nI b)), some (.int (nI k))] [] (wi g M) := by
  intro d b σ g M V P T hl hP hb w κ Φ X hF hT m
  have C := T.R.C
  have hse := T.R.se
  have h6 := hl.1
  induction m with
  | zero =>
    intro k hk hS
    have e : k = (sSe σ).length := by omega
    subst e
    refine r_iload_n (pc := 10) X dX7_isAllSeenSo_10 rfl ?_
    refine r_aload_n (pc := 11) X dX7_isAllSeenSo_11 rfl ?_
    refine r_getr (pc := 12) X dX7_isAllSeenSo_12 tf_7_12 rfl (kc_23 C) (rc_23_0 C) ?_
    refine r_getr (pc := 15) X dX7_isAllSeenSo_15 tf_7_173 rfl (kc_24 C) (rc_24_1 C) ?_
    refine r_getiW (pc := 18) X dX7_isAllSeenSo_18 tf_7_201 rfl (kc_32 C) hse.1 ?_
    refine r_icmp_geN (pc := 21) X dX7_isAllSeenSo_21 (tgt := 70) (by decide) (by omega) (by omega) (fun c21 => ?_) (fun c21 => ?_)
    · exact hT hS
    · exact absurd (Nat.le_refl _) c21
  | succ m ih =>
    intro k hk hS
    have hkl : k < (sSe σ).length := by omega
    obtain ⟨p, n, hp, hn, e⟩ := hl.2 k hkl
    have eL : M 33 k = nI p := by rw [(hse.2 k hkl).1, e]
    have eR : M 34 k = nI n := by rw [(hse.2 k hkl).2, e]
    refine r_iload_n (pc := 10) X dX7_isAllSeenSo_10 rfl ?_
    refine r_aload_n (pc := 11) X dX7_isAllSeenSo_11 rfl ?_
    refine r_getr (pc := 12) X dX7_isAllSeenSo_12 tf_7_12 rfl (kc_23 C) (rc_23_0 C) ?_
    refine r_getr (pc := 15) X dX7_isAllSeenSo_15 tf_7_173 rfl (kc_24 C) (rc_24_1 C) ?_
    refine r_getiW (pc := 18) X dX7_isAllSeenSo_18 tf_7_201 rfl (kc_32 C) hse.1 ?_
    refine r_icmp_geN (pc := 21) X dX7_isAllSeenSo_21 (tgt := 70) (by decide) (by omega) (by omega) (fun c21 => ?_) (fun c21 => ?_)
    · exact absurd c21 (by omega)
    · refine r_aload_n (pc := 24) X dX7_isAllSeenSo_24 rfl ?_
      refine r_getr (pc := 25) X dX7_isAllSeenSo_25 tf_7_12 rfl (kc_23 C) (rc_23_0 C) ?_
      refine r_getr (pc := 28) X dX7_isAllSeenSo_28 tf_7_173 rfl (kc_24 C) (rc_24_1 C) ?_
      refine r_getr (pc := 31) X dX7_isAllSeenSo_31 tf_7_207 rfl (kc_32 C) (rc_32_1 C) ?_
      refine r_iload_n (pc := 34) X dX7_isAllSeenSo_34 rfl ?_
      refine r_ialdW (pc := 35) X dX7_isAllSeenSo_35 (kc_34 C) rfl (by omega) (by omega) eR ?_
      refine r_iload_n (pc := 36) X dX7_isAllSeenSo_36 rfl ?_
      refine r_icmp_neN (pc := 37) X dX7_isAllSeenSo_37 (tgt := 64) (by decide) (by omega) (by omega) (fun c37 => ?_) (fun c37 => ?_)
      · refine r_iinc (pc := 64) X dX7_isAllSeenSo_64 rfl (by first | exact nI_i1 _ | rfl) ?_
        refine r_goto (pc := 67) X dX7_isAllSeenSo_67 (tgt := 10) (by decide) ?_
        exact ih (k + 1) (by omega) (fun i hi q hq => by
          by_cases z : i = k
          · subst z
            rw [e] at hq
            first
              | exact absurd ((nI_eq (by omega) (by omega)).mp (Prod.mk.inj hq).2) c37
              | exact c59.symm.trans (Prod.mk.inj hq).1
          · exact hS i (by omega) q hq)
      · refine r_aload_n (pc := 40) X dX7_isAllSeenSo_40 rfl ?_
        refine r_getr (pc := 41) X dX7_isAllSeenSo_41 tf_7_12 rfl (kc_23 C) (rc_23_0 C) ?_
        refine r_getr (pc := 44) X dX7_isAllSeenSo_44 tf_7_173 rfl (kc_24 C) (rc_24_1 C) ?_
        refine r_getr (pc := 47) X dX7_isAllSeenSo_47 tf_7_204 rfl (kc_32 C) (rc_32_0 C) ?_
        refine r_iload_n (pc := 50) X dX7_isAllSeenSo_50 rfl ?_
        refine r_ialdW (pc := 51) X dX7_isAllSeenSo_51 (kc_33 C) rfl (by omega) (by omega) eL ?_
        refine r_aload_n (pc := 52) X dX7_isAllSeenSo_52 rfl ?_
        refine r_getr (pc := 53) X dX7_isAllSeenSo_53 tf_7_29 rfl (kc_23 C) (rc_23_4 C) ?_
        refine r_c0_0P (pc := 56) X rfl dX7_isAllSeenSo_56 tc_7_132 mm_X5_holder (kc_58 C) rfl rfl (t_holder (d + 4) T) (Nat.le_of_ble_eq_true rfl) ?_
        refine r_icmp_eq (pc := 59) X dX7_isAllSeenSo_59 (tgt := 64) (by decide) (fun c59 => ?_) (fun c59 => ?_)
        · refine r_iinc (pc := 64) X dX7_isAllSeenSo_64 rfl (by first | exact nI_i1 _ | rfl) ?_
          refine r_goto (pc := 67) X dX7_isAllSeenSo_67 (tgt := 10) (by decide) ?_
          exact ih (k + 1) (by omega) (fun i hi q hq => by
            by_cases z : i = k
            · subst z
              rw [e] at hq
              first
                | exact absurd ((nI_eq (by omega) (by omega)).mp (Prod.mk.inj hq).2) c37
                | exact c59.symm.trans (Prod.mk.inj hq).1
            · exact hS i (by omega) q hq)
        · refine r_iconst (pc := 62) (v := (nI 0)) X dX7_isAllSeenSo_62 (by decide) ?_
          refine r_iret (pc := 63) X dX7_isAllSeenSo_63 rfl rfl ?_
          exact hF (so_f hkl e hn (by rw [c37]; exact c59))
set_option maxRecDepth 10000 in
set_option maxHeartbeats 4000000 in
theorem l_seenO : ∀ (d : Nat) {σ : SG} {g : hp_T} {V : VT} {B0 B P : Nat} (O : OK B0 σ) (hl : SnL P (sSe σ)) (hP : P ≤ 6) (hW : WF B V) (hz : ZV V) (hB : B + 200 ≤ 1000000) {w : wc_T} {κ : cx_T} {Φ : Option Value → hp_T → Prop} (X : CX w κ (d + 5) 7 cX7_isAllSeenSo 3 (some .boolean) Φ) {M0 : Mem}
    (hF : ∀ M1 b, TS σ g M1 (goF (EE σ) b V) → FR g M0 g M1 → b ≤ 61 → Φ (some (.int (b2 (soF (EE σ) (sSe σ) V)))) (wi g M1)),
    ∀ (m b : Nat) (M : Mem) (z : Option Value), b + m = 61 → TS σ g M (goF (EE σ) b V) → FR g M0 g M → (∀ i, i < (sSe σ).length → ∀ p n, pG (sSe σ) i = (nI p, nI n) → n < b → holdF (goF (EE σ) n V) = nI p) → GG w κ 2 [some (.ref 23), some (.int (nI b)), z] [] (wi g M) := by
  intro d σ g V B0 B P O hl hP hW hz hB w κ Φ X M0 hF m
  induction m with
  | zero =>
    intro b M z hb T F hS
    have e : b = 61 := by omega
    subst e
    refine r_iload_n (pc := 2) X dX7_isAllSeenSo_2 rfl ?_
    refine r_bipush (pc := 3) (v := (nI 60)) X dX7_isAllSeenSo_3 (by decide) ?_
    refine r_icmp_gtN (pc := 5) X dX7_isAllSeenSo_5 (tgt := 84) (by decide) (by omega) (by omega) (fun c5 => ?_) (fun c5 => ?_)
    · refine r_iconst (pc := 84) (v := (nI 1)) X dX7_isAllSeenSo_84 (by decide) ?_
      refine r_iret (pc := 85) X dX7_isAllSeenSo_85 rfl rfl ?_
      have e := so_t (E := EE σ) (V := V) hl (fun i hi p n h1 h2 => hS i hi p n h1 (by omega))
      have := hF M 61 T F (by omega)
      rw [e] at this
      exact this
    · exact absurd (by omega) c5
  | succ m ih =>
    intro b M z hb T F hS
    have C := T.R.C
    refine r_iload_n (pc := 2) X dX7_isAllSeenSo_2 rfl ?_
    refine r_bipush (pc := 3) (v := (nI 60)) X dX7_isAllSeenSo_3 (by decide) ?_
    refine r_icmp_gtN (pc := 5) X dX7_isAllSeenSo_5 (tgt := 84) (by decide) (by omega) (by omega) (fun c5 => ?_) (fun c5 => ?_)
    · exact absurd c5 (by omega)
    · refine r_iconst (pc := 8) (v := (nI 0)) X dX7_isAllSeenSo_8 (by decide) ?_
      refine r_istore_n (pc := 9) X dX7_isAllSeenSo_9 (Nat.le_of_ble_eq_true rfl) ?_
      refine l_seenI d b T hl hP (by omega) X (fun e => ?_) (fun hA => ?_) (sSe σ).length 0 (by omega) (fun i hi => absurd hi (Nat.not_lt_zero _))
      · have := hF M b T F (by omega)
        rw [e] at this
        exact this
      · refine r_aload_n (pc := 70) X dX7_isAllSeenSo_70 rfl ?_
        refine r_getr (pc := 71) X dX7_isAllSeenSo_71 tf_7_29 rfl (kc_23 C) (rc_23_4 C) ?_
        refine r_c0_0IW (pc := 74) X rfl dX7_isAllSeenSo_74 tc_7_144 mm_X5_move (kc_58 C) rfl rfl (t_move d T O (hW.goes O.ew b (by omega)) (hz.goes O.ew b hW (by omega)) (by omega)) (Nat.le_of_ble_eq_true rfl) (fun r74 M74 q74 => ?_)
        refine r_pop (pc := 77) X dX7_isAllSeenSo_77 rfl ?_
        refine r_iinc (pc := 78) X dX7_isAllSeenSo_78 rfl (by first | exact nI_i1 _ | rfl) ?_
        refine r_goto (pc := 81) X dX7_isAllSeenSo_81 (tgt := 2) (by decide) ?_
        have q := q74.1
        rw [← go_s] at q
        exact ih (b + 1) M74 _ (by omega) q (F.tr q74.2) (fun i hi p n h1 h2 => by
          by_cases z : n = b
          · subst z
            exact hA i hi p h1
          · exact hS i hi p n h1 (by omega))
set_option maxRecDepth 10000 in
set_option maxHeartbeats 4000000 in
theorem t_seen : ∀ (d : Nat) {σ : SG} {g : hp_T} {M : Mem} {V : VT} {B0 B P : Nat} (T : TS σ g M V) (O : OK B0 σ) (hl : SnL P (sSe σ)) (hP : P ≤ 6) (hW : WF B V) (hz : ZV V) (hB : B + 200 ≤ 1000000), Ei (d + 5) nX7_isAllSeenSo [.ref 23] (wi g M) (fun r M1 => r = b2 (soF (EE σ) (sSe σ) V) ∧ CRep σ g M1 ∧ FR g M g M1) := by
  intro d σ g M V B0 B P T O hl hP hW hz hB
  refine Ex.of mm_X7_isAllSeenSo (Nat.le_of_ble_eq_true rfl) fun w κ X hk hnm => ?_
  refine r_iconst (pc := 0) (v := (nI 0)) X dX7_isAllSeenSo_0 (by decide) ?_
  refine r_istore_n (pc := 1) X dX7_isAllSeenSo_1 (Nat.le_of_ble_eq_true rfl) ?_
  exact l_seenO d O hl hP hW hz hB X (M0 := M) (fun M1 b T1 F1 hb => ⟨⟨_, M1, rfl, rfl, rfl, T1.R, F1⟩, rfl⟩) 61 0 M _ (by omega) T FR.rf (fun i hi p n h1 h2 => absurd h2 (Nat.not_lt_zero _))
def undF : Nat → Int32 → Int32 → Bool
  | 0 => fun _ _ => false
  | n + 1 => fun u k => if u < 0 then false else if nI 7 ≤ u then false else if u = k then true else undF n (aboveL.getD u.toNatClampNeg 0) k
set_option maxRecDepth 10000 in
set_option maxHeartbeats 4000000 in
theorem l_under : ∀ (d : Nat) {h : hp_T} {a b : Int32} {w : wc_T} {κ : cx_T} {Φ : Option Value → hp_T → Prop} (X : CX w κ d 7 cX7_isOrIsUnder 4 (some .boolean) Φ) {B : Bool} (hΦ : Φ (some (.int (b2 B))) h),
    ∀ (m j : Nat) (u : Int32), j + m = 7 → undF m u b = B → GG w κ 4 [some (.int a), some (.int b), some (.int u), some (.int (nI j))] [] h := by
  intro d h a b w κ Φ X B hΦ m
  induction m with
  | zero =>
    intro j u hj hB
    subst hB
    have e : j = 7 := by omega
    subst e
    refine r_iload_n (pc := 4) X dX7_isOrIsUnder_4 rfl ?_
    refine r_bipush (pc := 5) (v := (nI 7)) X dX7_isOrIsUnder_5 (by decide) ?_
    refine r_icmp_geN (pc := 7) X dX7_isOrIsUnder_7 (tgt := 39) (by decide) (by omega) (by omega) (fun c7 => ?_) (fun c7 => ?_)
    · refine r_iconst (pc := 39) (v := (nI 0)) X dX7_isOrIsUnder_39 (by decide) ?_
      refine r_iret (pc := 40) X dX7_isOrIsUnder_40 rfl rfl ?_
      exact hΦ
    · exact absurd (by omega) c7
  | succ m ih =>
    intro j u hj hB
    unfold undF at hB
    refine r_iload_n (pc := 4) X dX7_isOrIsUnder_4 rfl ?_
    refine r_bipush (pc := 5) (v := (nI 7)) X dX7_isOrIsUnder_5 (by decide) ?_
    refine r_icmp_geN (pc := 7) X dX7_isOrIsUnder_7 (tgt := 39) (by decide) (by omega) (by omega) (fun c7 => ?_) (fun c7 => ?_)
    · exact absurd c7 (by omega)
    · refine r_iload_n (pc := 10) X dX7_isOrIsUnder_10 rfl ?_
      refine r_if_lt (pc := 11) X dX7_isOrIsUnder_11 (tgt := 39) (by decide) (fun c11 => ?_) (fun c11 => ?_)
      · refine r_iconst (pc := 39) (v := (nI 0)) X dX7_isOrIsUnder_39 (by decide) ?_
        refine r_iret (pc := 40) X dX7_isOrIsUnder_40 rfl rfl ?_
        first
          | (rw [if_pos c11] at hB; subst hB; exact hΦ)
          | (rw [if_neg c11, if_pos c17] at hB; subst hB; exact hΦ)
      · refine r_iload_n (pc := 14) X dX7_isOrIsUnder_14 rfl ?_
        refine r_bipush (pc := 15) (v := (nI 7)) X dX7_isOrIsUnder_15 (by decide) ?_
        refine r_icmp_ge (pc := 17) X dX7_isOrIsUnder_17 (tgt := 39) (by decide) (fun c17 => ?_) (fun c17 => ?_)
        · refine r_iconst (pc := 39) (v := (nI 0)) X dX7_isOrIsUnder_39 (by decide) ?_
          refine r_iret (pc := 40) X dX7_isOrIsUnder_40 rfl rfl ?_
          first
            | (rw [if_pos c11] at hB; subst hB; exact hΦ)
            | (rw [if_neg c11, if_pos c17] at hB; subst hB; exact hΦ)
        · refine r_iload_n (pc := 20) X dX7_isOrIsUnder_20 rfl ?_
          refine r_iload_n (pc := 21) X dX7_isOrIsUnder_21 rfl ?_
          refine r_icmp_ne (pc := 22) X dX7_isOrIsUnder_22 (tgt := 27) (by decide) (fun c22 => ?_) (fun c22 => ?_)
          · rw [if_neg c11, if_neg c17, if_neg c22] at hB
            obtain ⟨j2, hj2, e2⟩ := nI_of c11
            subst e2
            have hj7 : j2 < 7 := Nat.not_le.mp fun z => c17 (nI_le z hj2)
            rw [nI_clamp hj2] at hB
            refine r_above (pc := 27) X dX7_isOrIsUnder_27 ts_7_268 ?_
            refine r_iload_n (pc := 30) X dX7_isOrIsUnder_30 rfl ?_
            refine r_aboveld (pc := 31) X dX7_isOrIsUnder_31 rfl hj7 ?_
            refine r_istore_n (pc := 32) X dX7_isOrIsUnder_32 (Nat.le_of_ble_eq_true rfl) ?_
            refine r_iinc (pc := 33) X dX7_isOrIsUnder_33 rfl (by first | exact nI_i1 _ | rfl) ?_
            refine r_goto (pc := 36) X dX7_isOrIsUnder_36 (tgt := 4) (by decide) ?_
            exact ih (j + 1) _ (by omega) hB
          · refine r_iconst (pc := 25) (v := (nI 1)) X dX7_isOrIsUnder_25 (by decide) ?_
            refine r_iret (pc := 26) X dX7_isOrIsUnder_26 rfl rfl ?_
            rw [if_neg c11, if_neg c17, if_pos c22] at hB
            subst hB
            exact hΦ
set_option maxRecDepth 10000 in
set_option maxHeartbeats 4000000 in
theorem e_under : ∀ (d : Nat) (a b : Int32) {h : hp_T}, Ep d nX7_isOrIsUnder [.int a, .int b] h (.int (b2 (undF 7 a b))) := by
  intro d a b h
  refine Ex.of mm_X7_isOrIsUnder (Nat.le_of_ble_eq_true rfl) fun w κ X hk hnm => ?_
  refine r_iload_n (pc := 0) X dX7_isOrIsUnder_0 rfl ?_
  refine r_istore_n (pc := 1) X dX7_isOrIsUnder_1 (Nat.le_of_ble_eq_true rfl) ?_
  refine r_iconst (pc := 2) (v := (nI 0)) X dX7_isOrIsUnder_2 (by decide) ?_
  refine r_istore_n (pc := 3) X dX7_isOrIsUnder_3 (Nat.le_of_ble_eq_true rfl) ?_
  exact l_under d X (B := undF 7 a b) ⟨⟨rfl, rfl⟩, rfl⟩ 7 0 a (by omega) rfl
def cmF (a b : Nat) : Nat → Nat
  | 0 => 1
  | j + 1 => if a % (j + 2) = 0 ∧ b % (j + 2) = 0 then j + 2 else cmF a b j
theorem cm_pr {a b : Nat} : ∀ j, (cmF a b j ∣ a ∧ cmF a b j ∣ b) ∧ (1 ≤ cmF a b j ∧ cmF a b j ≤ j + 1) ∧ ∀ c, c ≤ j + 1 → c ∣ a → c ∣ b → c ≤ cmF a b j := by
  intro j
  induction j with
  | zero => exact ⟨⟨Nat.one_dvd _, Nat.one_dvd _⟩, ⟨Nat.le_refl _, Nat.le_refl _⟩, fun c hc _ _ => hc⟩
  | succ j ih =>
    unfold cmF
    split
    · rename_i z
      exact ⟨⟨Nat.dvd_of_mod_eq_zero z.1, Nat.dvd_of_mod_eq_zero z.2⟩, ⟨by omega, by omega⟩, fun c hc _ _ => hc⟩
    · rename_i z
      refine ⟨ih.1, ⟨ih.2.1.1, by omega⟩, fun c hc h1 h2 => ?_⟩
      by_cases e : c = j + 2
      · subst e
        exact absurd ⟨Nat.mod_eq_zero_of_dvd h1, Nat.mod_eq_zero_of_dvd h2⟩ z
      · exact ih.2.2 c (by omega) h1 h2
theorem cm_gcd {a b : Nat} (hb : 1 ≤ b) : cmF a b (b - 1) = Nat.gcd a b := by
  obtain ⟨⟨h1, h2⟩, ⟨h3, -⟩, h4⟩ := cm_pr (a := a) (b := b) (b - 1)
  have g0 : 0 < Nat.gcd a b := Nat.gcd_pos_of_pos_right a hb
  have g1 : Nat.gcd a b ≤ b := Nat.gcd_le_right a hb
  have l1 := h4 (Nat.gcd a b) (by omega) (Nat.gcd_dvd_left a b) (Nat.gcd_dvd_right a b)
  have l2 := Nat.le_of_dvd g0 (Nat.dvd_gcd h1 h2)
  omega
def fracF (a b : Nat) (part : Int32) : Int64 := if part = 0 then (nI (a / Nat.gcd a b)).toInt64 else (nI (b / Nat.gcd a b)).toInt64
set_option maxRecDepth 10000 in
set_option maxHeartbeats 4000000 in
theorem l_frac : ∀ (d : Nat) {h : hp_T} {a b : Nat} {x : Int32} (ha : a < 2 ^ 30) (hb : b < 2 ^ 30) (h1 : 1 ≤ b) {w : wc_T} {κ : cx_T} {Φ : Option Value → hp_T → Prop} (X : CX w κ d 7 cX7_fraction 5 (some .long) Φ) (hΦ : Φ (some (.long (fracF a b x))) h),
    ∀ (m j : Nat), j + m = b - 1 → GG w κ 5 [some (.int (nI a)), some (.int (nI b)), some (.int x), some (.int (nI (cmF a b j))), some (.int (nI (j + 2)))] [] h := by
  intro d h a b x ha hb h1 w κ Φ X hΦ m
  induction m with
  | zero =>
    intro j hj
    have e : j = b - 1 := by omega
    subst e
    have eg := cm_gcd (a := a) h1
    have g0 : 0 < Nat.gcd a b := Nat.gcd_pos_of_pos_right a h1
    have g1 : Nat.gcd a b ≤ b := Nat.gcd_le_right a h1
    rw [eg]
    refine r_iload (pc := 5) X dX7_fraction_5 rfl ?_
    refine r_iload_n (pc := 7) X dX7_fraction_7 rfl ?_
    refine r_icmp_gtN (pc := 8) X dX7_fraction_8 (tgt := 34) (by decide) (by omega) (by omega) (fun c8 => ?_) (fun c8 => ?_)
    · refine r_iload_n (pc := 34) X dX7_fraction_34 rfl ?_
      refine r_if_ne (pc := 35) X dX7_fraction_35 (tgt := 45) (by decide) (fun c35 => ?_) (fun c35 => ?_)
      · refine r_iload_n (pc := 45) X dX7_fraction_45 rfl ?_
        refine r_iload_n (pc := 46) X dX7_fraction_46 rfl ?_
        refine r_idiv (pc := 47) X dX7_fraction_47 (nI_ne0 g0 (by omega)) ?_
        refine r_top (pk_div (by omega) g0 (by omega)) ?_
        refine r_i2l (pc := 48) X dX7_fraction_48 rfl ?_
        refine r_lret (pc := 49) X dX7_fraction_49 rfl ?_
        first
          | (unfold fracF at hΦ; rw [if_pos c35] at hΦ; exact hΦ)
          | (unfold fracF at hΦ; rw [if_neg c35] at hΦ; exact hΦ)
      · refine r_iload_n (pc := 38) X dX7_fraction_38 rfl ?_
        refine r_iload_n (pc := 39) X dX7_fraction_39 rfl ?_
        refine r_idiv (pc := 40) X dX7_fraction_40 (nI_ne0 g0 (by omega)) ?_
        refine r_top (pk_div (by omega) g0 (by omega)) ?_
        refine r_i2l (pc := 41) X dX7_fraction_41 rfl ?_
        refine r_goto (pc := 42) X dX7_fraction_42 (tgt := 49) (by decide) ?_
        refine r_lret (pc := 49) X dX7_fraction_49 rfl ?_
        first
          | (unfold fracF at hΦ; rw [if_pos c35] at hΦ; exact hΦ)
          | (unfold fracF at hΦ; rw [if_neg c35] at hΦ; exact hΦ)
    · exact absurd (by omega) c8
  | succ m ih =>
    intro j hj
    refine r_iload (pc := 5) X dX7_fraction_5 rfl ?_
    refine r_iload_n (pc := 7) X dX7_fraction_7 rfl ?_
    refine r_icmp_gtN (pc := 8) X dX7_fraction_8 (tgt := 34) (by decide) (by omega) (by omega) (fun c8 => ?_) (fun c8 => ?_)
    · exact absurd c8 (by omega)
    · have hm1 : a % (j + 2) ≤ a := Nat.mod_le _ _
      have hm2 : b % (j + 2) ≤ b := Nat.mod_le _ _
      refine r_iload_n (pc := 11) X dX7_fraction_11 rfl ?_
      refine r_iload (pc := 12) X dX7_fraction_12 rfl ?_
      refine r_irem (pc := 14) X dX7_fraction_14 (nI_ne0 (by omega) (by omega)) ?_
      refine r_top (pk_rem (by omega) (by omega) (by omega)) ?_
      refine r_if_ne (pc := 15) X dX7_fraction_15 (tgt := 28) (by decide) (fun c15 => ?_) (fun c15 => ?_)
      · refine r_iinc (pc := 28) X dX7_fraction_28 rfl (by first | exact nI_i1 _ | rfl) ?_
        refine r_goto (pc := 31) X dX7_fraction_31 (tgt := 5) (by decide) ?_
        have i1 := ih (j + 1) (by omega)
        first
          | (rw [show cmF a b (j + 1) = cmF a b j from if_neg (fun z => c15 (by rw [z.1]; rfl))] at i1; exact i1)
          | (rw [show cmF a b (j + 1) = cmF a b j from if_neg (fun z => c22 (by rw [z.2]; rfl))] at i1; exact i1)
          | (rw [show cmF a b (j + 1) = j + 2 from if_pos ⟨(nI_eq (by omega) (by omega)).mp c15, (nI_eq (by omega) (by omega)).mp c22⟩] at i1; exact i1)
      · refine r_iload_n (pc := 18) X dX7_fraction_18 rfl ?_
        refine r_iload (pc := 19) X dX7_fraction_19 rfl ?_
        refine r_irem (pc := 21) X dX7_fraction_21 (nI_ne0 (by omega) (by omega)) ?_
        refine r_top (pk_rem (by omega) (by omega) (by omega)) ?_
        refine r_if_ne (pc := 22) X dX7_fraction_22 (tgt := 28) (by decide) (fun c22 => ?_) (fun c22 => ?_)
        · refine r_iinc (pc := 28) X dX7_fraction_28 rfl (by first | exact nI_i1 _ | rfl) ?_
          refine r_goto (pc := 31) X dX7_fraction_31 (tgt := 5) (by decide) ?_
          have i1 := ih (j + 1) (by omega)
          first
            | (rw [show cmF a b (j + 1) = cmF a b j from if_neg (fun z => c15 (by rw [z.1]; rfl))] at i1; exact i1)
            | (rw [show cmF a b (j + 1) = cmF a b j from if_neg (fun z => c22 (by rw [z.2]; rfl))] at i1; exact i1)
            | (rw [show cmF a b (j + 1) = j + 2 from if_pos ⟨(nI_eq (by omega) (by omega)).mp c15, (nI_eq (by omega) (by omega)).mp c22⟩] at i1; exact i1)
        · refine r_iload (pc := 25) X dX7_fraction_25 rfl ?_
          refine r_istore_n (pc := 27) X dX7_fraction_27 (Nat.le_of_ble_eq_true rfl) ?_
          refine r_iinc (pc := 28) X dX7_fraction_28 rfl (by first | exact nI_i1 _ | rfl) ?_
          refine r_goto (pc := 31) X dX7_fraction_31 (tgt := 5) (by decide) ?_
          have i1 := ih (j + 1) (by omega)
          first
            | (rw [show cmF a b (j + 1) = cmF a b j from if_neg (fun z => c15 (by rw [z.1]; rfl))] at i1; exact i1)
            | (rw [show cmF a b (j + 1) = cmF a b j from if_neg (fun z => c22 (by rw [z.2]; rfl))] at i1; exact i1)
            | (rw [show cmF a b (j + 1) = j + 2 from if_pos ⟨(nI_eq (by omega) (by omega)).mp c15, (nI_eq (by omega) (by omega)).mp c22⟩] at i1; exact i1)
set_option maxRecDepth 10000 in
set_option maxHeartbeats 4000000 in
theorem e_frac : ∀ (d : Nat) (x : Int32) {h : hp_T} {a b : Nat} (ha : a < 2 ^ 30) (hb : b < 2 ^ 30) (h1 : 1 ≤ b), Ep d nX7_fraction [.int (nI a), .int (nI b), .int x] h (.long (fracF a b x)) := by
  intro d x h a b ha hb h1
  refine Ex.of mm_X7_fraction (Nat.le_of_ble_eq_true rfl) fun w κ X hk hnm => ?_
  refine r_iconst (pc := 0) (v := (nI 1)) X dX7_fraction_0 (by decide) ?_
  refine r_istore_n (pc := 1) X dX7_fraction_1 (Nat.le_of_ble_eq_true rfl) ?_
  refine r_iconst (pc := 2) (v := (nI 2)) X dX7_fraction_2 (by decide) ?_
  refine r_istore (pc := 3) X dX7_fraction_3 (Nat.le_of_ble_eq_true rfl) ?_
  exact l_frac d ha hb h1 X ⟨⟨rfl, rfl⟩, rfl⟩ (b - 1) 0 (by omega)
