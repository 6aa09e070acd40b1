/-! needs, heavy, change, mute -/
theorem en_eq {V : VT} {B p : Nat} (hW : WF B V) (hp : p < 6) : enF V = nI p ↔ V 0 10 = nI p := by
  unfold enF
  by_cases c : V 0 10 = -5
  · rw [if_pos c, c]
    have key : ∀ p, p < 6 → (((-1 : Int32) = nI p) ↔ ((-5 : Int32) = nI p)) := by decide
    exact key p hp
  · rw [if_neg c]
set_option maxRecDepth 10000 in
set_option maxHeartbeats 4000000 in
theorem lm_needs : ∀ (d : Nat) {σ : SG} {h : hp_T} {M0 : Mem} {B0 : Nat} (C : CS h) (O : OK B0 σ) (hB : B0 + 2000 ≤ 1000000) {w : wc_T} {κ : cx_T} {Φ : Option Value → hp_T → Prop} (X : CX w κ (d + 9) 8 cX8_needs 5 (some .int) Φ) {p t : Nat} (hp6 : p < 6) (ht : t ≤ 60) {F : Nat → Bool} (hF : F = fun e => !decide (goF (EE σ) t (vU (sV σ) 4 p (nI e)) 0 10 = nI p)) {rr : Int32}
    (hΦ : ∀ M1, MRep σ M1 (h_l h) → FM h M0 (h_l h) M1 → Φ (some (.int rr)) (wi h M1)),
    ∀ (m : Nat) (k : Nat) (M : Mem) (fd : Int32), k + m = 10 → MRep σ M (h_l h) → FM h M0 (h_l h) M → ((fd = -5 ∧ afst F m k = rr) ∨ (¬ fd < 0 ∧ fd = rr)) → GG w κ 27 [some (.ref 80), some (.int (nI p)), some (.int (nI t)), some (.int fd), some (.int (nI k))] [] (wi h M) := by
  intro d σ h M0 B0 C O hB w κ Φ X p t hp6 ht F hF rr hΦ m
  have h6 := O.w.2.1
  induction m with
  | zero =>
    intro k M fd hk Q F hA
    have e : k = 10 := by omega
    subst e
    have er : fd = rr := hA.elim (fun z => z.1.trans z.2) (fun z => z.2)
    subst er
    refine r_iload (pc := 27) X dX8_needs_27 rfl ?_
    refine r_bipush (pc := 29) (v := (nI 10)) X dX8_needs_29 (by decide) ?_
    refine r_icmp_geN (pc := 31) X dX8_needs_31 (tgt := 81) (by decide) (by omega) (by omega) (fun c31 => ?_) (fun c31 => ?_)
    · refine r_iload_n (pc := 81) X dX8_needs_81 rfl ?_
      refine r_iret (pc := 82) X dX8_needs_82 rfl rfl ?_
      exact hΦ M Q F
    · exact absurd (Nat.le_refl _) c31
  | succ m ih =>
    intro k M fd hk Q F hA
    have hW1 := O.w.pers (f := 4) (p := p) (x := nI k) (by omega) ⟨k, by simp; omega, rfl⟩
    refine r_iload (pc := 27) X dX8_needs_27 rfl ?_
    refine r_bipush (pc := 29) (v := (nI 10)) X dX8_needs_29 (by decide) ?_
    refine r_icmp_geN (pc := 31) X dX8_needs_31 (tgt := 81) (by decide) (by omega) (by omega) (fun c31 => ?_) (fun c31 => ?_)
    · exact absurd c31 (by omega)
    · refine r_iload_n (pc := 34) X dX8_needs_34 rfl ?_
      refine r_if_ge (pc := 35) X dX8_needs_35 (tgt := 81) (by decide) (fun c35 => ?_) (fun c35 => ?_)
      · refine r_iload_n (pc := 81) X dX8_needs_81 rfl ?_
        refine r_iret (pc := 82) X dX8_needs_82 rfl rfl ?_
        have er : fd = rr := hA.elim (fun z => absurd c35 (by rw [z.1]; decide)) (fun z => z.2)
        subst er
        exact hΦ M Q F
      · obtain ⟨rfl, hA9⟩ := hA.elim (fun z => z) (fun z => absurd (Int32.not_le.mp c35) z.1)
        subst hF
        refine r_aload_n (pc := 38) X dX8_needs_38 rfl ?_
        refine r_c0_0VW (pc := 39) X rfl dX8_needs_39 tc_8_353 mm_X8_save (kc_80 C) rfl rfl (a_save (d + 8) C Q O) (Nat.le_of_ble_eq_true rfl) (fun M39 q39 => ?_)
        refine r_aload_n (pc := 42) X dX8_needs_42 rfl ?_
        refine r_getr (pc := 43) X dX8_needs_43 tf_8_35 rfl (kc_80 C) (rc_80_8 C) ?_
        refine r_iload_n (pc := 46) X dX8_needs_46 rfl ?_
        refine r_iload (pc := 47) X dX8_needs_47 rfl ?_
        refine r_iastW (pc := 49) X dX8_needs_49 (kc_84 C) rfl hp6 (by omega) ?_
        have r49 := q39.uf (f := 4) (k := p) (x := nI k) (by omega) hp6
        refine r_aload_n (pc := 50) X dX8_needs_50 rfl ?_
        refine r_iload_n (pc := 51) X dX8_needs_51 rfl ?_
        refine r_c0_1VW (pc := 52) X rfl dX8_needs_52 tc_8_356 mm_X8_goSteps (kc_80 C) rfl rfl (a_go (d + 2) t C r49 O hW1 (by omega) (by omega)) (Nat.le_of_ble_eq_true rfl) (fun M52 q52 => ?_)
        refine r_aload_n (pc := 55) X dX8_needs_55 rfl ?_
        refine r_getiW (pc := 56) X dX8_needs_56 tf_8_22 rfl (kc_80 C) (q52.s.2.2.2.2.1) ?_
        refine r_iload_n (pc := 59) X dX8_needs_59 rfl ?_
        refine r_icmp_ne (pc := 60) X dX8_needs_60 (tgt := 68) (by decide) (fun c60 => ?_) (fun c60 => ?_)
        · refine r_iload (pc := 68) X dX8_needs_68 rfl ?_
          refine r_istore_n (pc := 70) X dX8_needs_70 (Nat.le_of_ble_eq_true rfl) ?_
          refine r_aload_n (pc := 71) X dX8_needs_71 rfl ?_
          refine r_c0_0VW (pc := 72) X rfl dX8_needs_72 tc_8_359 mm_X8_putBack (kc_80 C) rfl rfl (a_back (d + 8) C q52 Q O) (Nat.le_of_ble_eq_true rfl) (fun M72 q72 => ?_)
          obtain ⟨Q1, F1⟩ := q72
          refine r_iinc (pc := 75) X dX8_needs_75 rfl (by first | exact nI_i1 _ | rfl) ?_
          refine r_goto (pc := 78) X dX8_needs_78 (tgt := 27) (by decide) ?_
          have hWg := hW1.goes O.ew t (by omega)
          have e9 : afst (fun e => !decide (goF (EE σ) t (vU (sV σ) 4 p (nI e)) 0 10 = nI p)) (m + 1) k = nI k := if_pos (by simp only [decide_eq_false (fun z => c60 ((en_eq hWg hp6).mpr z))]; rfl)
          rw [e9] at hA9
          exact ih (k + 1) M72 _ (by omega) Q1 (F.tr F1) (Or.inr ⟨nI_pos (by omega), hA9⟩)
        · refine r_bipush (pc := 63) (v := (-5)) X dX8_needs_63 (by decide) ?_
          refine r_goto (pc := 65) X dX8_needs_65 (tgt := 70) (by decide) ?_
          refine r_istore_n (pc := 70) X dX8_needs_70 (Nat.le_of_ble_eq_true rfl) ?_
          refine r_aload_n (pc := 71) X dX8_needs_71 rfl ?_
          refine r_c0_0VW (pc := 72) X rfl dX8_needs_72 tc_8_359 mm_X8_putBack (kc_80 C) rfl rfl (a_back (d + 8) C q52 Q O) (Nat.le_of_ble_eq_true rfl) (fun M72 q72 => ?_)
          obtain ⟨Q1, F1⟩ := q72
          refine r_iinc (pc := 75) X dX8_needs_75 rfl (by first | exact nI_i1 _ | rfl) ?_
          refine r_goto (pc := 78) X dX8_needs_78 (tgt := 27) (by decide) ?_
          have hWg := hW1.goes O.ew t (by omega)
          exact ih (k + 1) M72 _ (by omega) Q1 (F.tr F1) (Or.inl ⟨rfl, (if_neg (by simp only [decide_eq_true ((en_eq hWg hp6).mp c60)]; decide)).symm.trans hA9⟩)
set_option maxRecDepth 10000 in
set_option maxHeartbeats 4000000 in
theorem n_needs : ∀ (d : Nat) (p n : Int32) {σ : SG} {h : hp_T} {M : Mem} {B0 : Nat} (C : CS h) (Q : MRep σ M (h_l h)) (O : OK B0 σ) (hB : B0 + 2000 ≤ 1000000), Ex (d + 9) nX8_needs [.ref 80, .int p, .int n] (wi h M) 0 0 (QM (f_needs σ p n) h M) := by
  intro d p n σ h M B0 C Q O hB
  refine Ex.of mm_X8_needs (Nat.le_of_ble_eq_true rfl) fun w κ X hk hnm => ?_
  refine r_aload_n (pc := 0) X dX8_needs_0 rfl ?_
  refine r_iload_n (pc := 1) X dX8_needs_1 rfl ?_
  refine r_c0_1P (pc := 2) X rfl dX8_needs_2 tc_8_247 mm_X8_isPerson (kc_80 C) rfl rfl (m_isPerson (d + 7) p C Q.s O.w) (Nat.le_of_ble_eq_true rfl) ?_
  refine r_if_neB (pc := 5) X dX8_needs_5 (tgt := 10) (by decide) (fun c5 => ?_) (fun c5 => ?_)
  · obtain ⟨p, hp, hp6, rfl⟩ := has_nat O.w c5
    have cp := nI_clamp (show p < 2 ^ 31 by omega)
    refine r_aload_n (pc := 10) X dX8_needs_10 rfl ?_
    refine r_iload_n (pc := 11) X dX8_needs_11 rfl ?_
    refine r_c0_1P (pc := 12) X rfl dX8_needs_12 tc_8_368 mm_X8_isFew (kc_80 C) rfl rfl (m_isFew (d + 7) n C) (Nat.le_of_ble_eq_true rfl) ?_
    refine r_if_neB (pc := 15) X dX8_needs_15 (tgt := 21) (by decide) (fun c15 => ?_) (fun c15 => ?_)
    · obtain ⟨t, ht0, ht, rfl⟩ := inF_lo c15 (by omega) (by omega)
      have ct := nI_clamp (show t < 2 ^ 31 by omega)
      refine r_bipush (pc := 21) (v := (-5)) X dX8_needs_21 (by decide) ?_
      refine r_istore_n (pc := 23) X dX8_needs_23 (Nat.le_of_ble_eq_true rfl) ?_
      refine r_iconst (pc := 24) (v := (nI 0)) X dX8_needs_24 (by decide) ?_
      refine r_istore (pc := 25) X dX8_needs_25 (Nat.le_of_ble_eq_true rfl) ?_
      refine lm_needs d C O hB X hp6 ht rfl (fun M1 Q1 F1 => ⟨QM.mk ?_ Q1 F1, rfl⟩) 10 0 M _ (by omega) Q FM.rf (Or.inl ⟨rfl, rfl⟩)
      simp (decide := true) [f_needs, c5, c15, cp, ct]
    · refine r_bipush (pc := 18) (v := (-2)) X dX8_needs_18 (by decide) ?_
      refine r_iret (pc := 20) X dX8_needs_20 rfl rfl ?_
      refine ⟨QM.mk (σ1 := σ) ?_ Q FM.rf, rfl⟩
      simp (decide := true) [f_needs, c5, c15]
  · refine r_iconst (pc := 8) (v := (-1)) X dX8_needs_8 (by decide) ?_
    refine r_iret (pc := 9) X dX8_needs_9 rfl rfl ?_
    refine ⟨QM.mk (σ1 := σ) ?_ Q FM.rf, rfl⟩
    simp (decide := true) [f_needs, c5]
theorem tg_cong {E : EV} {V U : VT} {p : Nat} (h06 : U 0 6 = V 0 6) (hr : reachF E U p = reachF E V p) (h1 : U 1 = V 1) (h3 : U 3 = V 3) (h4 : U 4 = V 4) : targetF E U p = targetF E V p ∧ ∀ q, wayF U p q = wayF V p q := by
  have hw : ∀ a b, wayF U a b = wayF V a b := fun a b => by unfold wayF; rw [h3]
  have hP : vP U = vP V := by unfold vP; rw [h06]
  refine ⟨?_, fun q => hw p q⟩
  unfold targetF nearK farK hopeK
  simp only [hw, hP, hr, h1, h4]
theorem rc_cong {E : EV} {V U : VT} {p : Nat} (h8 : U 0 8 / nI 8 = V 0 8 / nI 8) (h9 : U 0 9 = V 0 9) (h1 : U 1 = V 1) (h2 : U 2 = V 2) (h6 : U 6 = V 6) : reachF E U p = reachF E V p := by
  unfold reachF oldF plainF dreadF
  rw [h8, h9, h1, h2, h6]
def okM (E : EV) (V : VT) (p n : Nat) : Bool := match targetF E (vU V 0 8 (nI n)) p with
  | none => false
  | some q => !decide (reachF E (vU V 0 8 (nI n)) p < wayF (vU V 0 8 (nI n)) p q)
theorem ok_8 {E : EV} {V : VT} {p n : Nat} (hn : n < 1000) {a : Int32} : okM E V p n = hvO E (handF V a) p (n / 8) := by
  unfold okM hvO
  have h8 : (vU (handF V a) 0 8 (nI (8 * (n / 8) + 7))) 0 8 / nI 8 = (vU V 0 8 (nI n)) 0 8 / nI 8 := by
    rw [vU_eq, vU_eq, pk_div (by omega) (by omega) (by omega), pk_div (by omega) (by omega) (by omega)]
    exact congrArg nI (by omega)
  have hf : ∀ f i, f ≠ 0 → vU (handF V a) 0 8 (nI (8 * (n / 8) + 7)) f i = vU V 0 8 (nI n) f i := fun f i h => by
    rw [vU_ne (by omega), vU_ne (by omega)]
    unfold handF
    rw [vU_ne (by omega), vU_ne (by omega)]
  have h0 : ∀ i, i ≠ 7 → i ≠ 8 → i ≠ 10 → vU (handF V a) 0 8 (nI (8 * (n / 8) + 7)) 0 i = vU V 0 8 (nI n) 0 i := fun i h1 h2 h3 => by
    rw [vU_ne (by omega), vU_ne (by omega)]
    unfold handF
    rw [vU_ne (by omega), vU_ne (by omega)]
  have hr := rc_cong (E := E) (p := p) h8 (h0 9 (by omega) (by omega) (by omega)) (funext fun i => hf 1 i (by omega)) (funext fun i => hf 2 i (by omega)) (funext fun i => hf 6 i (by omega))
  obtain ⟨t1, t2⟩ := tg_cong (E := E) (p := p) (h0 6 (by omega) (by omega) (by omega)) hr (funext fun i => hf 1 i (by omega)) (funext fun i => hf 3 i (by omega)) (funext fun i => hf 4 i (by omega))
  rw [t1, hr]
  cases targetF E (vU V 0 8 (nI n)) p with
  | none => rfl
  | some q => show (!decide _) = (!decide _); rw [t2]
def hvM (ok : Nat → Bool) : Nat → Int32
  | 0 => -5
  | k + 1 => if ok k then nI k else hvM ok k
theorem hv_8 {ok g : Nat → Bool} {N : Nat} (h : ∀ n, n < N → ok n = g (n / 8)) : ∀ k, 8 * k ≤ N → hvM ok (8 * k) = hvF g k := by
  intro k
  induction k with
  | zero => intro _; rfl
  | succ k ih =>
    intro hk
    show hvM ok (8 * k + 7 + 1) = (if g k then nI (8 * k + 7) else hvF g k)
    have e : ∀ j, j < 8 → ok (8 * k + j) = g k := fun j hj => by rw [h _ (by omega), show (8 * k + j) / 8 = k by omega]
    unfold hvM
    rw [e 7 (by omega)]
    by_cases c : g k = true
    · rw [if_pos c, if_pos c]
    · rw [if_neg c, if_neg c]
      have down : ∀ j, j ≤ 7 → hvM ok (8 * k + j) = hvM ok (8 * k) := by
        intro j
        induction j with
        | zero => intro _; rfl
        | succ j ij =>
          intro hj
          show (if ok (8 * k + j) then nI (8 * k + j) else hvM ok (8 * k + j)) = _
          rw [e j (by omega), if_neg c]
          exact ij (by omega)
      rw [down 7 (by omega)]
      exact ih (by omega)
set_option maxRecDepth 10000 in
set_option maxHeartbeats 4000000 in
theorem lm_heavy : ∀ (d : Nat) {σ : SG} {h : hp_T} {M0 : Mem} {B0 : Nat} (C : CS h) (O : OK B0 σ) (hB : B0 + 2000 ≤ 1000000) {w : wc_T} {κ : cx_T} {Φ : Option Value → hp_T → Prop} (X : CX w κ (d + 9) 8 cX8_heavy 5 (some .int) Φ) {p : Nat} (hp6 : p < 6) (h2 : 2 ≤ vP (sV σ)) {rr : Int32} (Q0 : MRep σ M0 (h_l h))
    (hΦ : ∀ M1, MRep σ M1 (h_l h) → FM h M0 (h_l h) M1 → Φ (some (.int rr)) (wi h M1)),
    ∀ (m : Nat) (M : Mem) (fd x : Int32), m ≤ 1000 → MSt (vU (sV σ) 0 8 x) M → FS M0 M → ((fd = -5 ∧ hvM (okM (EE σ) (sV σ) p) m = rr) ∨ (¬ fd < 0 ∧ fd = rr)) → GG w κ 34 [some (.ref 80), some (.int (nI p)), some (.int (sV σ 0 8)), some (.int fd), some (.int (lowH m))] [] (wi h M) := by
  intro d σ h M0 B0 C O hB w κ Φ X p hp6 h2 rr Q0 hΦ m
  have h6 := O.w.2.1
  induction m with
  | zero =>
    intro M fd x hm S F hA
    refine r_iload (pc := 34) X dX8_heavy_34 rfl ?_
    refine r_if_lt (pc := 36) X dX8_heavy_36 (tgt := 81) (by decide) (fun c36 => ?_) (fun c36 => ?_)
    · refine r_aload_n (pc := 81) X dX8_heavy_81 rfl ?_
      refine r_iload_n (pc := 82) X dX8_heavy_82 rfl ?_
      refine r_putiW (pc := 83) X dX8_heavy_83 tf_8_19 rfl (Or.inl rfl) (kc_80 C) ⟨rfl, rfl⟩ ?_
      refine r_iload_n (pc := 86) X dX8_heavy_86 rfl ?_
      refine r_iret (pc := 87) X dX8_heavy_87 rfl rfl ?_
      have er : fd = rr := hA.elim (fun z => z.1.trans z.2) (fun z => z.2)
      subst er
      have S9 := S.u8 (x := sV σ 0 8)
      rw [vU_vU, vU_id] at S9
      have F9 : FS M0 (mU M 80 (upd (M 80) 3 (sV σ 0 8))) := F.tr (FS.u0 (by omega))
      exact hΦ _ (Q0.st S9 F9) (FM.fa F9.fa)
    · exact absurd (show lowH 0 < 0 by decide) c36
  | succ m ih =>
    intro M fd x hm S F hA
    have hE := (Q0.ev O).fs F
    have hW1 : WF B0 (vU (sV σ) 0 8 (nI m)) := O.w.weight (by omega)
    have hP := vP_U (V := sV σ) (f := 0) (i := 8) (x := nI m) (by omega)
    show GG w κ 34 [some (.ref 80), some (.int (nI p)), some (.int (sV σ 0 8)), some (.int fd), some (.int (nI m))] [] (wi h M)
    refine r_iload (pc := 34) X dX8_heavy_34 rfl ?_
    refine r_if_lt (pc := 36) X dX8_heavy_36 (tgt := 81) (by decide) (fun c36 => ?_) (fun c36 => ?_)
    · exact absurd c36 (nI_pos (by omega))
    · refine r_iload_n (pc := 39) X dX8_heavy_39 rfl ?_
      refine r_if_ge (pc := 40) X dX8_heavy_40 (tgt := 81) (by decide) (fun c40 => ?_) (fun c40 => ?_)
      · refine r_aload_n (pc := 81) X dX8_heavy_81 rfl ?_
        refine r_iload_n (pc := 82) X dX8_heavy_82 rfl ?_
        refine r_putiW (pc := 83) X dX8_heavy_83 tf_8_19 rfl (Or.inl rfl) (kc_80 C) ⟨rfl, rfl⟩ ?_
        refine r_iload_n (pc := 86) X dX8_heavy_86 rfl ?_
        refine r_iret (pc := 87) X dX8_heavy_87 rfl rfl ?_
        have er : fd = rr := hA.elim (fun z => absurd c40 (by rw [z.1]; decide)) (fun z => z.2)
        subst er
        have S9 := S.u8 (x := sV σ 0 8)
        rw [vU_vU, vU_id] at S9
        have F9 : FS M0 (mU M 80 (upd (M 80) 3 (sV σ 0 8))) := F.tr (FS.u0 (by omega))
        exact hΦ _ (Q0.st S9 F9) (FM.fa F9.fa)
      · obtain ⟨rfl, hA9⟩ := hA.elim (fun z => z) (fun z => absurd (Int32.not_le.mp c40) z.1)
        refine r_aload_n (pc := 43) X dX8_heavy_43 rfl ?_
        refine r_iload (pc := 44) X dX8_heavy_44 rfl ?_
        refine r_putiW (pc := 46) X dX8_heavy_46 tf_8_19 rfl (Or.inl rfl) (kc_80 C) ⟨rfl, rfl⟩ ?_
        have S46 := S.u8 (x := nI m)
        rw [vU_vU] at S46
        have F46 : FS M0 (mU M 80 (upd (M 80) 3 (nI m))) := F.tr (FS.u0 (by omega))
        have E46 := (Q0.ev O).fs F46
        obtain ⟨q, hq, -, eq⟩ := target_some (E := EE σ) (V := vU (sV σ) 0 8 (nI m)) (p := p) (by rw [hP]; exact h2)
        rw [hP] at hq
        refine r_aload_n (pc := 49) X dX8_heavy_49 rfl ?_
        refine r_iload_n (pc := 50) X dX8_heavy_50 rfl ?_
        refine r_aload_n (pc := 51) X dX8_heavy_51 rfl ?_
        refine r_iload_n (pc := 52) X dX8_heavy_52 rfl ?_
        refine r_c0_1P (pc := 53) X rfl dX8_heavy_53 tc_8_337 mm_X8_toWhom (kc_80 C) rfl rfl (m_toWhom (d + 4) C S46 E46 hW1 hp6) (Nat.le_of_ble_eq_true rfl) ?_
        rw [eq]
        show GG w κ _ _ (.int (nI q) :: _) _
        refine r_c0_2P (pc := 56) X rfl dX8_heavy_56 tc_8_322 mm_X8_way (kc_80 C) rfl rfl (m_way (d + 8) C S46 hW1 hp6 (show q < 6 by omega)) (Nat.le_of_ble_eq_true rfl) ?_
        refine r_aload_n (pc := 59) X dX8_heavy_59 rfl ?_
        refine r_iload_n (pc := 60) X dX8_heavy_60 rfl ?_
        refine r_c0_1P (pc := 61) X rfl dX8_heavy_61 tc_8_325 mm_X8_reach (kc_80 C) rfl rfl (m_reach (d + 6) C S46 E46 hW1 hp6) (Nat.le_of_ble_eq_true rfl) ?_
        refine r_icmp_gt (pc := 64) X dX8_heavy_64 (tgt := 72) (by decide) (fun c64 => ?_) (fun c64 => ?_)
        · refine r_bipush (pc := 72) (v := (-5)) X dX8_heavy_72 (by decide) ?_
          refine r_istore_n (pc := 74) X dX8_heavy_74 (Nat.le_of_ble_eq_true rfl) ?_
          refine r_iinc (pc := 75) X dX8_heavy_75 rfl (lowH_dec m) ?_
          refine r_goto (pc := 78) X dX8_heavy_78 (tgt := 34) (by decide) ?_
          have e8 : okM (EE σ) (sV σ) p m = !decide (reachF (EE σ) (vU (sV σ) 0 8 (nI m)) p < wayF (vU (sV σ) 0 8 (nI m)) p q) := by unfold okM; rw [eq]
          exact ih _ _ (nI m) (by omega) S46 F46 (Or.inl ⟨rfl, (if_neg (by rw [e8, decide_eq_true c64]; decide)).symm.trans hA9⟩)
        · refine r_iload (pc := 67) X dX8_heavy_67 rfl ?_
          refine r_goto (pc := 69) X dX8_heavy_69 (tgt := 74) (by decide) ?_
          refine r_istore_n (pc := 74) X dX8_heavy_74 (Nat.le_of_ble_eq_true rfl) ?_
          refine r_iinc (pc := 75) X dX8_heavy_75 rfl (lowH_dec m) ?_
          refine r_goto (pc := 78) X dX8_heavy_78 (tgt := 34) (by decide) ?_
          have e8 : okM (EE σ) (sV σ) p m = !decide (reachF (EE σ) (vU (sV σ) 0 8 (nI m)) p < wayF (vU (sV σ) 0 8 (nI m)) p q) := by unfold okM; rw [eq]
          have e9 : hvM (okM (EE σ) (sV σ) p) (m + 1) = nI m := if_pos (by rw [e8, decide_eq_false c64]; rfl)
          rw [e9] at hA9
          exact ih _ _ (nI m) (by omega) S46 F46 (Or.inr ⟨nI_pos (by omega), hA9⟩)
theorem hv_one {E : EV} {V : VT} {p : Nat} (h : ¬ 2 ≤ vP V) (hp : p < vP V) {a : Int32} : ∀ k, hvF (hvO E (handF V a) p) k = -5 := by
  have hb : ∀ (ok : Nat → Bool) (lt : Nat → Nat → Bool), (∀ q, q < 1 → ok q = false) → bestO ok lt 1 = none := by
    intro ok lt h
    show (match bestO ok lt 0 with
      | none => if ok 0 = true then some 0 else none
      | some b => if ok 0 = true ∧ lt 0 b = true then some 0 else some b) = none
    show (if ok 0 = true then some 0 else none) = none
    rw [if_neg (by rw [h 0 (by omega)]; decide)]
  have ht : ∀ k, targetF E (vU (handF V a) 0 8 (nI (8 * k + 7))) p = none := by
    intro k
    have hP : vP (vU (handF V a) 0 8 (nI (8 * k + 7))) = 1 := by rw [vP_U (by omega), hand_P]; omega
    have hp0 : p = 0 := by omega
    subst hp0
    unfold targetF nearK farK hopeK
    rw [hP]
    have n1 : ∀ (lt : Nat → Nat → Bool), bestO (fun q => !decide (q = 0)) lt 1 = none := fun lt => hb _ lt (fun q hq => by
      have : q = 0 := by omega
      subst this
      rfl)
    have n2 : ∀ (x : Int32) (lt : Nat → Nat → Bool), bestO (fun q => !decide (q = 0) && !decide (x < wayF (vU (handF V a) 0 8 (nI (8 * k + 7))) 0 q)) lt 1 = none := fun x lt => hb _ lt (fun q hq => by
      have : q = 0 := by omega
      subst this
      rfl)
    rw [n1, n1, n2]
    split
    · rfl
    · split <;> rfl
  intro k
  induction k with
  | zero => rfl
  | succ k ih =>
    show (if hvO E (handF V a) p k = true then _ else _) = _
    unfold hvO
    rw [ht k, if_neg (fun z => Bool.noConfusion z)]
    exact ih
set_option maxRecDepth 10000 in
set_option maxHeartbeats 4000000 in
theorem n_heavy : ∀ (d : Nat) (p : Int32) {σ : SG} {h : hp_T} {M : Mem} {B0 : Nat} (C : CS h) (Q : MRep σ M (h_l h)) (O : OK B0 σ) (hB : B0 + 2000 ≤ 1000000), Ex (d + 9) nX8_heavy [.ref 80, .int p] (wi h M) 0 0 (QM (f_heavy σ p) h M) := by
  intro d p σ h M B0 C Q O hB
  refine Ex.of mm_X8_heavy (Nat.le_of_ble_eq_true rfl) fun w κ X hk hnm => ?_
  refine r_aload_n (pc := 0) X dX8_heavy_0 rfl ?_
  refine r_iload_n (pc := 1) X dX8_heavy_1 rfl ?_
  refine r_c0_1P (pc := 2) X rfl dX8_heavy_2 tc_8_247 mm_X8_isPerson (kc_80 C) rfl rfl (m_isPerson (d + 7) p C Q.s O.w) (Nat.le_of_ble_eq_true rfl) ?_
  refine r_if_neB (pc := 5) X dX8_heavy_5 (tgt := 10) (by decide) (fun c5 => ?_) (fun c5 => ?_)
  · obtain ⟨p, hp, hp6, rfl⟩ := has_nat O.w c5
    have cp := nI_clamp (show p < 2 ^ 31 by omega)
    have h6 := O.w.2.1
    refine r_aload_n (pc := 10) X dX8_heavy_10 rfl ?_
    refine r_getiW (pc := 11) X dX8_heavy_11 tf_8_7 rfl (kc_80 C) (Q.pp O) ?_
    refine r_iconst (pc := 14) (v := (nI 2)) X dX8_heavy_14 (by decide) ?_
    refine r_icmp_geN (pc := 15) X dX8_heavy_15 (tgt := 21) (by decide) (by omega) (by omega) (fun c15 => ?_) (fun c15 => ?_)
    · refine r_aload_n (pc := 21) X dX8_heavy_21 rfl ?_
      refine r_getiW (pc := 22) X dX8_heavy_22 tf_8_19 rfl (kc_80 C) (show M 80 3 = _ from Q.s.2.2.2.1) ?_
      refine r_istore_n (pc := 25) X dX8_heavy_25 (Nat.le_of_ble_eq_true rfl) ?_
      refine r_bipush (pc := 26) (v := (-5)) X dX8_heavy_26 (by decide) ?_
      refine r_istore_n (pc := 28) X dX8_heavy_28 (Nat.le_of_ble_eq_true rfl) ?_
      refine r_sipush (pc := 29) (v := (nI 999)) X dX8_heavy_29 (by decide) ?_
      refine r_istore (pc := 32) X dX8_heavy_32 (Nat.le_of_ble_eq_true rfl) ?_
      have e0 := vU_id (V := sV σ) (f := 0) (i := 8)
      refine lm_heavy d C O hB X hp6 (by omega) Q (fun M1 Q1 F1 => ⟨QM.mk ?_ Q1 F1, rfl⟩) 1000 M _ (sV σ 0 8) (by omega) (by rw [e0]; exact Q.s) FS.rf (Or.inl ⟨rfl, rfl⟩)
      rw [hv_8 (N := 1000) (k := 125) (fun n hn => ok_8 (a := nI p) hn) (by omega)]
      simp (decide := true) [f_heavy, c5, cp]
    · refine r_bipush (pc := 18) (v := (-5)) X dX8_heavy_18 (by decide) ?_
      refine r_iret (pc := 20) X dX8_heavy_20 rfl rfl ?_
      refine ⟨QM.mk (σ1 := σ) ?_ Q FM.rf, rfl⟩
      simp (decide := true) [f_heavy, c5, cp, hv_one (show ¬ 2 ≤ vP (sV σ) by omega) hp]
  · refine r_iconst (pc := 8) (v := (-1)) X dX8_heavy_8 (by decide) ?_
    refine r_iret (pc := 9) X dX8_heavy_9 rfl rfl ?_
    refine ⟨QM.mk (σ1 := σ) ?_ Q FM.rf, rfl⟩
    simp (decide := true) [f_heavy, c5]
set_option maxRecDepth 10000 in
set_option maxHeartbeats 4000000 in
theorem lm_chI : ∀ (d : Nat) {σ : SG} {h : hp_T} {M0 : Mem} {B0 : Nat} (C : CS h) (O : OK B0 σ) (hB : B0 + 2000 ≤ 1000000) {w : wc_T} {κ : cx_T} {Φ : Option Value → hp_T → Prop} (X : CX w κ (d + 9) 8 cX8_change 6 (some .int) Φ) {a P : Nat} (hP : vP (sV σ) = P) (ha : a < P) {F : Nat → Nat → Int32} (hF : F = fun a b => nI (endN (EE σ) (chV (sV σ) a b))) {rr : Int32 × Int32}
    (hT : ∀ M1 y z, MRep σ M1 (h_l h) → FM h M0 (h_l h) M1 → GG w κ 98 [some (.ref 80), some (.int rr.2), some (.int rr.1), some (.int (nI a)), y, z] [] (wi h M1)),
    ∀ (m : Nat) (b : Nat) (M : Mem) (x l : Int32) (z : Option Value), a < b → b + m = P → MRep σ M (h_l h) → FM h M0 (h_l h) M → chI F a m b x l = rr → GG w κ 23 [some (.ref 80), some (.int l), some (.int x), some (.int (nI a)), some (.int (nI b)), z] [] (wi h M) := by
  intro d σ h M0 B0 C O hB w κ Φ X a P hP ha F hF rr hT m
  have h6 := O.w.2.1
  subst hP
  induction m with
  | zero =>
    intro b M x l z hab hk Q F hA
    have e : b = vP (sV σ) := by omega
    subst e
    subst hA
    refine r_iload (pc := 23) X dX8_change_23 rfl ?_
    refine r_aload_n (pc := 25) X dX8_change_25 rfl ?_
    refine r_getiW (pc := 26) X dX8_change_26 tf_8_7 rfl (kc_80 C) (Q.pp O) ?_
    refine r_icmp_geN (pc := 29) X dX8_change_29 (tgt := 98) (by decide) (by omega) (by omega) (fun c29 => ?_) (fun c29 => ?_)
    · exact hT M _ _ Q F
    · exact absurd (Nat.le_refl _) c29
  | succ m ih =>
    intro b M x l z hab hk Q F hA
    have hb : b < vP (sV σ) := by omega
    obtain ⟨-, -, ⟨na, hna, ea⟩, -⟩ := O.w.2.2.2.2.2.2.1 a (by omega)
    obtain ⟨-, -, ⟨nb, hnb, eb⟩, -⟩ := O.w.2.2.2.2.2.2.1 b (by omega)
    have hW1 : WF B0 (chV (sV σ) a b) := (O.w.pers (f := 3) (p := a) (x := sV σ 3 b) (by omega) ⟨nb, by simp; omega, eb⟩).pers (f := 3) (p := b) (x := sV σ 3 a) (by omega) ⟨na, by simp; omega, ea⟩
    refine r_iload (pc := 23) X dX8_change_23 rfl ?_
    refine r_aload_n (pc := 25) X dX8_change_25 rfl ?_
    refine r_getiW (pc := 26) X dX8_change_26 tf_8_7 rfl (kc_80 C) (Q.pp O) ?_
    refine r_icmp_geN (pc := 29) X dX8_change_29 (tgt := 98) (by decide) (by omega) (by omega) (fun c29 => ?_) (fun c29 => ?_)
    · exact absurd c29 (by omega)
    · refine r_aload_n (pc := 32) X dX8_change_32 rfl ?_
      refine r_c0_0VW (pc := 33) X rfl dX8_change_33 tc_8_353 mm_X8_save (kc_80 C) rfl rfl (a_save (d + 8) C Q O) (Nat.le_of_ble_eq_true rfl) (fun M33 q33 => ?_)
      refine r_aload_n (pc := 36) X dX8_change_36 rfl ?_
      refine r_getr (pc := 37) X dX8_change_37 tf_8_32 rfl (kc_80 C) (rc_80_7 C) ?_
      refine r_iload_n (pc := 40) X dX8_change_40 rfl ?_
      refine r_aload_n (pc := 41) X dX8_change_41 rfl ?_
      refine r_getr (pc := 42) X dX8_change_42 tf_8_114 rfl (kc_80 C) (rc_80_34 C) ?_
      refine r_iload (pc := 45) X dX8_change_45 rfl ?_
      refine r_ialdW (pc := 47) X dX8_change_47 (kc_97 C) rfl (by omega) (by omega) (q33.k3 (show b < 6 by omega)) ?_
      refine r_iastW (pc := 48) X dX8_change_48 (kc_83 C) rfl (by omega) (by omega) ?_
      have r48 := q33.uf (f := 3) (k := a) (x := sV σ 3 b) (by omega) (by omega)
      refine r_aload_n (pc := 49) X dX8_change_49 rfl ?_
      refine r_getr (pc := 50) X dX8_change_50 tf_8_32 rfl (kc_80 C) (rc_80_7 C) ?_
      refine r_iload (pc := 53) X dX8_change_53 rfl ?_
      refine r_aload_n (pc := 55) X dX8_change_55 rfl ?_
      refine r_getr (pc := 56) X dX8_change_56 tf_8_114 rfl (kc_80 C) (rc_80_34 C) ?_
      refine r_iload_n (pc := 59) X dX8_change_59 rfl ?_
      refine r_ialdW (pc := 60) X dX8_change_60 (kc_97 C) rfl (by omega) (by omega) (r48.k3 (show a < 6 by omega)) ?_
      refine r_iastW (pc := 61) X dX8_change_61 (kc_83 C) rfl (by omega) (by omega) ?_
      have r61 := r48.uf (f := 3) (k := b) (x := sV σ 3 a) (by omega) (by omega)
      refine r_aload_n (pc := 62) X dX8_change_62 rfl ?_
      refine r_c0_0IW (pc := 63) X rfl dX8_change_63 tc_8_362 mm_X8_toEnd (kc_80 C) rfl rfl (a_toEnd (d + 2) C r61 O hW1 (by omega)) (Nat.le_of_ble_eq_true rfl) (fun r63 M63 q63 => ?_)
      obtain ⟨rfl, V63, r63⟩ := q63
      refine r_istore (pc := 66) X dX8_change_66 (Nat.le_of_ble_eq_true rfl) ?_
      refine r_aload_n (pc := 68) X dX8_change_68 rfl ?_
      refine r_c0_0VW (pc := 69) X rfl dX8_change_69 tc_8_359 mm_X8_putBack (kc_80 C) rfl rfl (a_back (d + 8) C r63 Q O) (Nat.le_of_ble_eq_true rfl) (fun M69 q69 => ?_)
      obtain ⟨Q1, F1⟩ := q69
      refine r_iload (pc := 72) X dX8_change_72 rfl ?_
      refine r_iload_n (pc := 74) X dX8_change_74 rfl ?_
      refine r_icmp_gt (pc := 75) X dX8_change_75 (tgt := 81) (by decide) (fun c75 => ?_) (fun c75 => ?_)
      · refine r_bipush (pc := 81) (v := (nI 10)) X dX8_change_81 (by decide) ?_
        refine r_iload_n (pc := 83) X dX8_change_83 rfl ?_
        refine r_imul (pc := 84) X dX8_change_84 ?_
        refine r_iload (pc := 85) X dX8_change_85 rfl ?_
        refine r_iadd (pc := 87) X dX8_change_87 ?_
        refine r_istore_n (pc := 88) X dX8_change_88 (Nat.le_of_ble_eq_true rfl) ?_
        refine r_iload (pc := 89) X dX8_change_89 rfl ?_
        refine r_istore_n (pc := 91) X dX8_change_91 (Nat.le_of_ble_eq_true rfl) ?_
        refine r_iinc (pc := 92) X dX8_change_92 rfl (by first | exact nI_i1 _ | rfl) ?_
        refine r_goto (pc := 95) X dX8_change_95 (tgt := 23) (by decide) ?_
        exact ih (b + 1) M69 _ _ _ (by omega) (by omega) Q1 (F.tr F1) (by subst hF; exact (if_neg (Int32.not_le.mpr c75)).symm.trans hA)
      · refine r_goto (pc := 78) X dX8_change_78 (tgt := 92) (by decide) ?_
        refine r_iinc (pc := 92) X dX8_change_92 rfl (by first | exact nI_i1 _ | rfl) ?_
        refine r_goto (pc := 95) X dX8_change_95 (tgt := 23) (by decide) ?_
        exact ih (b + 1) M69 _ _ _ (by omega) (by omega) Q1 (F.tr F1) (by subst hF; exact (if_pos (Int32.not_lt.mp c75)).symm.trans hA)
set_option maxRecDepth 10000 in
set_option maxHeartbeats 4000000 in
theorem lm_chO : ∀ (d : Nat) {σ : SG} {h : hp_T} {M0 : Mem} {B0 : Nat} (C : CS h) (O : OK B0 σ) (hB : B0 + 2000 ≤ 1000000) {w : wc_T} {κ : cx_T} {Φ : Option Value → hp_T → Prop} (X : CX w κ (d + 9) 8 cX8_change 6 (some .int) Φ) {P : Nat} (hP : vP (sV σ) = P) {F : Nat → Nat → Int32} (hF : F = fun a b => nI (endN (EE σ) (chV (sV σ) a b))) {rr : Int32 × Int32}
    (hΦ : ∀ M1, MRep σ M1 (h_l h) → FM h M0 (h_l h) M1 → Φ (some (.int rr.1)) (wi h M1)),
    ∀ (m : Nat) (a : Nat) (M : Mem) (x l : Int32) (y z : Option Value), a + m = P → MRep σ M (h_l h) → FM h M0 (h_l h) M → chO F P m a x l = rr → GG w κ 10 [some (.ref 80), some (.int l), some (.int x), some (.int (nI a)), y, z] [] (wi h M) := by
  intro d σ h M0 B0 C O hB w κ Φ X P hP F hF rr hΦ m
  have h6 := O.w.2.1
  subst hP
  induction m with
  | zero =>
    intro a M x l y z hk Q F hA
    have e : a = vP (sV σ) := by omega
    subst e
    subst hA
    refine r_iload_n (pc := 10) X dX8_change_10 rfl ?_
    refine r_aload_n (pc := 11) X dX8_change_11 rfl ?_
    refine r_getiW (pc := 12) X dX8_change_12 tf_8_7 rfl (kc_80 C) (Q.pp O) ?_
    refine r_icmp_geN (pc := 15) X dX8_change_15 (tgt := 104) (by decide) (by omega) (by omega) (fun c15 => ?_) (fun c15 => ?_)
    · refine r_iload_n (pc := 104) X dX8_change_104 rfl ?_
      refine r_iret (pc := 105) X dX8_change_105 rfl rfl ?_
      exact hΦ M Q F
    · exact absurd (Nat.le_refl _) c15
  | succ m ih =>
    intro a M x l y z hk Q F hA
    refine r_iload_n (pc := 10) X dX8_change_10 rfl ?_
    refine r_aload_n (pc := 11) X dX8_change_11 rfl ?_
    refine r_getiW (pc := 12) X dX8_change_12 tf_8_7 rfl (kc_80 C) (Q.pp O) ?_
    refine r_icmp_geN (pc := 15) X dX8_change_15 (tgt := 104) (by decide) (by omega) (by omega) (fun c15 => ?_) (fun c15 => ?_)
    · exact absurd c15 (by omega)
    · refine r_iload_n (pc := 18) X dX8_change_18 rfl ?_
      refine r_iconst (pc := 19) (v := (nI 1)) X dX8_change_19 (by decide) ?_
      refine r_iadd (pc := 20) X dX8_change_20 ?_
      refine r_top (nI_add a 1) ?_
      refine r_istore (pc := 21) X dX8_change_21 (Nat.le_of_ble_eq_true rfl) ?_
      refine lm_chI d C O hB X rfl (show a < vP (sV σ) by omega) hF (fun M2 y2 z2 Q2 F2 => ?_) (vP (sV σ) - (a + 1)) (a + 1) M _ _ _ (by omega) (by omega) Q F rfl
      refine r_iinc (pc := 98) X dX8_change_98 rfl (by first | exact nI_i1 _ | rfl) ?_
      refine r_goto (pc := 101) X dX8_change_101 (tgt := 10) (by decide) ?_
      exact ih (a + 1) M2 _ _ _ _ (by omega) Q2 F2 hA
set_option maxRecDepth 10000 in
set_option maxHeartbeats 4000000 in
theorem n_change : ∀ (d : Nat) {σ : SG} {h : hp_T} {M : Mem} {B0 : Nat} (C : CS h) (Q : MRep σ M (h_l h)) (O : OK B0 σ) (hB : B0 + 2000 ≤ 1000000), Ex (d + 9) nX8_change [.ref 80] (wi h M) 0 0 (QM (f_change σ) h M) := by
  intro d σ h M B0 C Q O hB
  refine Ex.of mm_X8_change (Nat.le_of_ble_eq_true rfl) fun w κ X hk hnm => ?_
  refine r_aload_n (pc := 0) X dX8_change_0 rfl ?_
  refine r_c0_0IW (pc := 1) X rfl dX8_change_1 tc_8_365 mm_X8_endsIn (kc_80 C) rfl rfl (m_endsIn (d + 1) C Q O hB) (Nat.le_of_ble_eq_true rfl) (fun r1 M1 q1 => ?_)
  obtain ⟨rfl, Q1, F1⟩ := q1
  refine r_istore_n (pc := 4) X dX8_change_4 (Nat.le_of_ble_eq_true rfl) ?_
  refine r_bipush (pc := 5) (v := (-5)) X dX8_change_5 (by decide) ?_
  refine r_istore_n (pc := 7) X dX8_change_7 (Nat.le_of_ble_eq_true rfl) ?_
  refine r_iconst (pc := 8) (v := (nI 0)) X dX8_change_8 (by decide) ?_
  refine r_istore_n (pc := 9) X dX8_change_9 (Nat.le_of_ble_eq_true rfl) ?_
  exact lm_chO d C O hB X rfl rfl (fun M2 Q2 F2 => ⟨QM.mk rfl Q2 F2, rfl⟩) (vP (sV σ)) 0 M1 _ _ _ _ (by omega) Q1 F1 rfl
