def amin (f : Nat → Int32) : Nat → Int32 × Int32
  | 0 => (0, 2147483647)
  | k + 1 => if (amin f k).2 ≤ f k then amin f k else (nI k, f k)
def f_stand (σ : SG) (p n x : Int32) : Int32 × SG := if hasF p (sV σ 0 6) && inF x (nI 0) (nI 1) then (if inF n (nI 1) (nI 60) then
  (if x = 0 then (amin (fun e => goF (EE σ) n.toNatClampNeg (vU (sV σ) 3 p.toNatClampNeg (nI e)) 5 p.toNatClampNeg - sV σ 5 p.toNatClampNeg) 20).1 else (amin (fun e => goF (EE σ) n.toNatClampNeg (vU (sV σ) 3 p.toNatClampNeg (nI e)) 5 p.toNatClampNeg - sV σ 5 p.toNatClampNeg) 20).2, σ) else (-2, σ)) else (-1, σ)
def afst (ok : Nat → Bool) : Nat → Nat → Int32
  | 0, _ => -5
  | m + 1, k => if ok k then nI k else afst ok m (k + 1)
def f_needs (σ : SG) (p n : Int32) : Int32 × SG := if hasF p (sV σ 0 6) then (if inF n (nI 1) (nI 60) then (afst (fun e => !decide (goF (EE σ) n.toNatClampNeg (vU (sV σ) 4 p.toNatClampNeg (nI e)) 0 10 = p)) 10 0, σ) else (-2, σ)) else (-1, σ)
def hvO (E : EV) (V : VT) (p k : Nat) : Bool := match targetF E (vU V 0 8 (nI (8 * k + 7))) p with
  | none => false
  | some q => !decide (reachF E (vU V 0 8 (nI (8 * k + 7))) p < wayF (vU V 0 8 (nI (8 * k + 7))) p q)
def hvF (ok : Nat → Bool) : Nat → Int32
  | 0 => -5
  | k + 1 => if ok k then nI (8 * k + 7) else hvF ok k
def f_heavy (σ : SG) (p : Int32) : Int32 × SG := if hasF p (sV σ 0 6) then (hvF (hvO (EE σ) (handF (sV σ) p) p.toNatClampNeg) 125, σ) else (-1, σ)
def chI (f : Nat → Nat → Int32) (a : Nat) : Nat → Nat → Int32 → Int32 → Int32 × Int32
  | 0, _, x, l => (x, l)
  | m + 1, b, x, l => if f a b ≤ l then chI f a m (b + 1) x l else chI f a m (b + 1) (nI 10 * nI a + nI b) (f a b)
def chO (f : Nat → Nat → Int32) (P : Nat) : Nat → Nat → Int32 → Int32 → Int32 × Int32
  | 0, _, x, l => (x, l)
  | m + 1, a, x, l => chO f P m (a + 1) (chI f a (P - (a + 1)) (a + 1) x l).1 (chI f a (P - (a + 1)) (a + 1) x l).2
def chV (V : VT) (a b : Nat) : VT := vU (vU V 3 a (V 3 b)) 3 b (V 3 a)
def f_change (σ : SG) : Int32 × SG := ((chO (fun a b => nI (endN (EE σ) (chV (sV σ) a b))) (vP (sV σ)) (vP (sV σ)) 0 (-5) (nI (endN (EE σ) (sV σ)))).1, σ)
def muI (G V : VT) : Nat → Nat → Int32 → Int32
  | 0, _, s => s
  | m + 1, k, s => if G 5 k = V 5 k then muI G V m (k + 1) s else muI G V m (k + 1) (s &&& (nI 1 <<< (nI k &&& 31) ^^^ (-1)))
def muO (G : Nat → VT) (V : VT) (P : Nat) : Nat → Nat → Int32 → Int32
  | 0, _, s => s
  | m + 1, k, s => muO G V P m (k + 1) (muI (G k) V P 0 s)
def f_mute (σ : SG) (n : Int32) : Int32 × SG := if inF n (nI 1) (nI 60) then (muO (fun k => goF (EE σ) n.toNatClampNeg (handF (sV σ) (nI k))) (sV σ) (vP (sV σ)) (vP (sV σ)) 0 (nI 1 <<< (nI (vP (sV σ)) &&& 31) - nI 1), σ) else (-2, σ)
def frF (ok : Nat → Bool) : Nat → Nat → Int32 → Int32
  | 0, _, s => s
  | m + 1, k, s => if ok k then frF ok m (k + 1) (s ||| nI 1 <<< (nI k &&& 31)) else frF ok m (k + 1) s
def f_from (σ : SG) : Int32 × SG := (frF (fun k => soF (EE σ) (sSe σ) (handF (sV σ) (nI k))) (vP (sV σ)) 0 (nI 0), σ)
def hdF (ok : Nat → Bool) : Nat → Nat → Int32 → Nat × Int32
  | 0, c, x => (c, x)
  | m + 1, c, x => if ok m then hdF ok m (c + 1) (nI m) else hdF ok m c x
def f_had (σ : SG) (p x : Int32) : Int32 × SG := if hasF p (sV σ 0 6) && inF x (nI 0) (nI 1) then
  (if x = 0 then nI (hdF (fun e => soF (EE σ) (sSe σ) (vU (sV σ) 4 p.toNatClampNeg (nI e))) 10 0 (-5)).1 else (hdF (fun e => soF (EE σ) (sSe σ) (vU (sV σ) 4 p.toNatClampNeg (nI e))) 10 0 (-5)).2, σ) else (-1, σ)
def odF (ok : Nat → Bool) : Nat → Nat → Nat → Nat
  | 0, _, c => c
  | m + 1, k, c => if ok k then odF ok m (k + 1) (c + 1) else odF ok m (k + 1) c
def f_odds (σ : SG) (n x : Int32) : Int64 × SG := if inF n (nI 0) (nI 99) && inF x (nI 0) (nI 1) && !decide (sV σ 0 6 = 0) then (fracF (odF (fun k => endF (goF (EE σ) n.toNatClampNeg (handF (sV σ) (nI k)))) (vP (sV σ)) 0 0) (vP (sV σ)) x, σ) else (-9223372036854775808, σ)
def meF (E : EV) : Nat → VT → Nat → Nat
  | 0, _, c => c
  | m + 1, V, c => meF E m (moveF E V).2 (c + ((moveF E V).2 0 8).toNatClampNeg)
def f_mean (σ : SG) (n x : Int32) : Int64 × SG := if inF n (nI 1) (nI 60) && inF x (nI 0) (nI 1) then (fracF (meF (EE σ) n.toNatClampNeg (sV σ) 0) n.toNatClampNeg x, σ) else (-9223372036854775808, σ)
def plF (E : EV) (l : PL) : Nat → Nat → VT → VT
  | 0, _, V => V
  | m + 1, k, V => plF E l m (k + 1) (playF E V (pG l k).1 (pG l k).2)
def f_gone (σ : SG) (x : Int32) : Int32 × SG := if inF x (nI 0) (nI 2) then (buckF (plF (EE σ) (sGa σ) (sGa σ).length 0 (sV σ)) x, σ) else (-1, σ)
theorem vU_vU {V : VT} {f i : Nat} {x y : Int32} : vU (vU V f i x) f i y = vU V f i y := by
  funext g j
  unfold vU
  by_cases c : g = f ∧ j = i
  · rw [if_pos c, if_pos c]
  · rw [if_neg c, if_neg c, if_neg c]
theorem vU_id {V : VT} {f i : Nat} : vU V f i (V f i) = V := by
  funext g j
  unfold vU
  by_cases c : g = f ∧ j = i
  · rw [if_pos c, c.1, c.2]
  · rw [if_neg c]
theorem tg_lt {E : EV} {V : VT} {p q : Nat} (h : targetF E V p = some q) : q < vP V := by
  unfold targetF at h
  split at h
  · split at h
    · exact bestO_lt h
    · rename_i b hb
      cases h
      exact bestO_lt hb
  · split at h
    · exact bestO_lt h
    · exact bestO_lt h
theorem enc_no {r : Option Nat} (hr : ∀ q, r = some q → q < 1000) (h : enc5 r < 0) : r = none := by
  cases r with
  | none => rfl
  | some q => exact absurd h (nI_pos (by have := hr q rfl; omega))
theorem enc_so {r : Option Nat} (h : ¬ enc5 r < 0) : ∃ q, r = some q := by
  cases r with
  | none => exact absurd (show enc5 none < 0 by decide) h
  | some q => exact ⟨q, rfl⟩
def lowF : Nat → Int32
  | 0 => -8
  | j + 1 => nI (8 * j)
theorem low_dec (m : Nat) : nI (8 * m) + Int32.ofInt (-8) = lowF m := by
  cases m with
  | zero => decide
  | succ m =>
    show nI (8 * (m + 1)) + Int32.ofInt (-8) = nI (8 * m)
    rw [show 8 * (m + 1) = 8 * m + 8 by omega, ← nI_add, Int32.add_assoc, show nI 8 + Int32.ofInt (-8) = 0 by decide, Int32.add_zero]
def lowH : Nat → Int32
  | 0 => -1
  | j + 1 => nI j
theorem lowH_dec (m : Nat) : nI m + Int32.ofInt (-1) = lowH m := by
  cases m with
  | zero => decide
  | succ m => exact pk_m1 m
theorem od_le {ok : Nat → Bool} : ∀ (m k c : Nat), odF ok m k c ≤ c + m := by
  intro m
  induction m with
  | zero => intro k c; exact Nat.le_refl _
  | succ m ih =>
    intro k c
    unfold odF
    split
    · have := ih (k + 1) (c + 1); omega
    · have := ih (k + 1) c; omega
theorem WF.w8 {B : Nat} {V : VT} (h : WF B V) : V 0 8 = nI (V 0 8).toNatClampNeg ∧ (V 0 8).toNatClampNeg ≤ 999 := by
  obtain ⟨n, hn, e⟩ := h.2.2.2.1
  rw [e, nI_clamp (by omega)]
  exact ⟨rfl, hn⟩
theorem me_le {E : EV} (hE : EW E) : ∀ (m : Nat) (V : VT) (c B : Nat), WF B V → B + 2 * m ≤ 1000000 → meF E m V c ≤ c + 999 * m := by
  intro m
  induction m with
  | zero => intro V c B _ _; exact Nat.le_refl _
  | succ m ih =>
    intro V c B hW hB
    have h1 := hW.move hE (by omega)
    have := ih _ (c + ((moveF E V).2 0 8).toNatClampNeg) _ h1 (by omega)
    have h2 := h1.w8.2
    show meF E m _ _ ≤ _
    omega
set_option maxRecDepth 10000 in
set_option maxHeartbeats 4000000 in
theorem l_stand : ∀ (d : Nat) {σ : SG} {h0 : hp_T} {M0 : Mem} {B0 : Nat} (O : OK B0 σ) (hB : B0 + 2000 ≤ 1000000) {w : wc_T} {κ : cx_T} {Φ : Option Value → hp_T → Prop} (X : CX w κ (d + 8) 7 cX7_stand 8 (some .int) Φ) {p t : Nat} {x : Int32} (hp6 : p < 6) (ht : t ≤ 60) {F : Nat → Int32} (hF : F = fun e => goF (EE σ) t (vU (sV σ) 3 p (nI e)) 5 p - sV σ 5 p)
    (hΦ : ∀ g M1, CRep σ g M1 → FR h0 M0 g M1 → Φ (some (.int (if x = 0 then (amin F 20).1 else (amin F 20).2))) (wi g M1)),
    ∀ (m : Nat) (k : Nat) (g : hp_T) (M : Mem) (b l : Int32) (z : Option Value), k + m = 20 → CRep σ g M → FR h0 M0 g M → amin F k = (b, l) → GG w κ 45 [some (.ref 23), some (.int (nI p)), some (.int (nI t)), some (.int x), some (.int b), some (.int l), some (.int (nI k)), z] [] (wi g M) := by
  intro d σ h0 M0 B0 O hB w κ Φ X p t x hp6 ht F hF hΦ m
  have h6 := O.w.2.1
  induction m with
  | zero =>
    intro k g M b l z hk R F hA
    have e : k = 20 := by omega
    subst e
    rw [hA] at hΦ
    refine r_iload (pc := 45) X dX7_stand_45 rfl ?_
    refine r_bipush (pc := 47) (v := (nI 20)) X dX7_stand_47 (by decide) ?_
    refine r_icmp_geN (pc := 49) X dX7_stand_49 (tgt := 124) (by decide) (by omega) (by omega) (fun c49 => ?_) (fun c49 => ?_)
    · refine r_iload_n (pc := 124) X dX7_stand_124 rfl ?_
      refine r_if_ne (pc := 125) X dX7_stand_125 (tgt := 133) (by decide) (fun c125 => ?_) (fun c125 => ?_)
      · refine r_iload (pc := 133) X dX7_stand_133 rfl ?_
        refine r_iret (pc := 135) X dX7_stand_135 rfl rfl ?_
        have := hΦ g M R F
        rw [if_neg c125] at this
        exact this
      · refine r_iload (pc := 128) X dX7_stand_128 rfl ?_
        refine r_goto (pc := 130) X dX7_stand_130 (tgt := 135) (by decide) ?_
        refine r_iret (pc := 135) X dX7_stand_135 rfl rfl ?_
        have := hΦ g M R F
        rw [if_pos c125] at this
        exact this
    · exact absurd (Nat.le_refl _) c49
  | succ m ih =>
    intro k g M b l z hk R F hA
    have C := R.C
    refine r_iload (pc := 45) X dX7_stand_45 rfl ?_
    refine r_bipush (pc := 47) (v := (nI 20)) X dX7_stand_47 (by decide) ?_
    refine r_icmp_geN (pc := 49) X dX7_stand_49 (tgt := 124) (by decide) (by omega) (by omega) (fun c49 => ?_) (fun c49 => ?_)
    · exact absurd c49 (by omega)
    · refine r_aload_n (pc := 52) X dX7_stand_52 rfl ?_
      refine r_getr (pc := 53) X dX7_stand_53 tf_7_29 rfl (kc_23 C) (rc_23_4 C) ?_
      refine r_aload_n (pc := 56) X dX7_stand_56 rfl ?_
      refine r_getr (pc := 57) X dX7_stand_57 tf_7_25 rfl (kc_23 C) (rc_23_3 C) ?_
      refine r_c0_1G (pc := 60) X rfl dX7_stand_60 tc_7_147 mm_X5_become (kc_58 C) rfl rfl (t_become (d + 6) R) (Nat.le_of_ble_eq_true rfl) (fun v60 g60 q60 => ?_)
      obtain ⟨M60, g60, rfl, rfl, T60, F60⟩ := q60
      have C := T60.R.C
      refine r_aload_n (pc := 63) X dX7_stand_63 rfl ?_
      refine r_getr (pc := 64) X dX7_stand_64 tf_7_29 rfl (kc_23 C) (rc_23_4 C) ?_
      refine r_getr (pc := 67) X dX7_stand_67 tf_7_78 rfl (kc_58 C) (rc_58_2 C) ?_
      refine r_iload_n (pc := 70) X dX7_stand_70 rfl ?_
      refine r_iload (pc := 71) X dX7_stand_71 rfl ?_
      refine r_iastW (pc := 73) X dX7_stand_73 (kc_61 C) rfl hp6 (by omega) ?_
      obtain ⟨T73, F73⟩ := T60.uf (f := 3) (k := p) (x := nI k) (by omega) hp6 O.z
      have hW1 := O.w.pers (f := 3) (p := p) (x := nI k) (by omega) ⟨k, by simp; omega, rfl⟩
      refine r_aload_n (pc := 74) X dX7_stand_74 rfl ?_
      refine r_getr (pc := 75) X dX7_stand_75 tf_7_29 rfl (kc_23 C) (rc_23_4 C) ?_
      refine r_iload_n (pc := 78) X dX7_stand_78 rfl ?_
      refine r_c0_1VW (pc := 79) X rfl dX7_stand_79 tc_7_151 mm_X5_go (kc_58 C) rfl rfl (t_go (d + 2) t T73 O hW1 (O.z.U (by omega)) (by omega) (by omega)) (Nat.le_of_ble_eq_true rfl) (fun M79 q79 => ?_)
      obtain ⟨T79, F79⟩ := q79
      have F9 := ((F.tr F60).tr F73).tr F79
      refine r_aload_n (pc := 82) X dX7_stand_82 rfl ?_
      refine r_getr (pc := 83) X dX7_stand_83 tf_7_29 rfl (kc_23 C) (rc_23_4 C) ?_
      refine r_getr (pc := 86) X dX7_stand_86 tf_7_84 rfl (kc_58 C) (rc_58_4 C) ?_
      refine r_iload_n (pc := 89) X dX7_stand_89 rfl ?_
      refine r_ialdW (pc := 90) X dX7_stand_90 (kc_63 C) rfl hp6 (by omega) (T79.a5 p) ?_
      refine r_aload_n (pc := 91) X dX7_stand_91 rfl ?_
      refine r_getr (pc := 92) X dX7_stand_92 tf_7_25 rfl (kc_23 C) (rc_23_3 C) ?_
      refine r_getr (pc := 95) X dX7_stand_95 tf_7_84 rfl (kc_25 C) (rc_25_4 C) ?_
      refine r_iload_n (pc := 98) X dX7_stand_98 rfl ?_
      refine r_ialdW (pc := 99) X dX7_stand_99 (kc_30 C) rfl hp6 (by omega) (T79.R.a5 p) ?_
      refine r_isub (pc := 100) X dX7_stand_100 ?_
      refine r_istore (pc := 101) X dX7_stand_101 (Nat.le_of_ble_eq_true rfl) ?_
      refine r_iload (pc := 103) X dX7_stand_103 rfl ?_
      refine r_iload (pc := 105) X dX7_stand_105 rfl ?_
      refine r_icmp_ge (pc := 107) X dX7_stand_107 (tgt := 118) (by decide) (fun c107 => ?_) (fun c107 => ?_)
      · refine r_iinc (pc := 118) X dX7_stand_118 rfl (by first | exact nI_i1 _ | rfl) ?_
        refine r_goto (pc := 121) X dX7_stand_121 (tgt := 45) (by decide) ?_
        exact ih (k + 1) g60 M79 _ _ _ (by omega) T79.R F9 (by subst hF; simp only [amin, hA]; exact if_pos c107)
      · refine r_iload (pc := 110) X dX7_stand_110 rfl ?_
        refine r_istore (pc := 112) X dX7_stand_112 (Nat.le_of_ble_eq_true rfl) ?_
        refine r_iload (pc := 114) X dX7_stand_114 rfl ?_
        refine r_istore (pc := 116) X dX7_stand_116 (Nat.le_of_ble_eq_true rfl) ?_
        refine r_iinc (pc := 118) X dX7_stand_118 rfl (by first | exact nI_i1 _ | rfl) ?_
        refine r_goto (pc := 121) X dX7_stand_121 (tgt := 45) (by decide) ?_
        exact ih (k + 1) g60 M79 _ _ _ (by omega) T79.R F9 (by subst hF; simp only [amin, hA]; exact if_neg c107)
set_option maxRecDepth 10000 in
set_option maxHeartbeats 4000000 in
theorem k_stand : ∀ (d : Nat) (p n x : Int32) {σ : SG} {h : hp_T} {M : Mem} {B0 : Nat} (R : CRep σ h M) (O : OK B0 σ) (hB : B0 + 2000 ≤ 1000000), Ex (d + 8) nX7_stand [.ref 23, .int p, .int n, .int x] (wi h M) 0 0 (QC (f_stand σ p n x) h M) := by
  intro d p n x σ h M B0 R O hB
  have C := R.C
  refine Ex.of mm_X7_stand (Nat.le_of_ble_eq_true rfl) fun w κ X hk hnm => ?_
  refine r_aload_n (pc := 0) X dX7_stand_0 rfl ?_
  refine r_getr (pc := 1) X dX7_stand_1 tf_7_25 rfl (kc_23 C) (rc_23_3 C) ?_
  refine r_iload_n (pc := 4) X dX7_stand_4 rfl ?_
  refine r_c0_1P (pc := 5) X rfl dX7_stand_5 tc_7_68 mm_X5_has (kc_25 C) rfl rfl (u_has (d + 7) p R) (Nat.le_of_ble_eq_true rfl) ?_
  refine r_if_eqB (pc := 8) X dX7_stand_8 (tgt := 20) (by decide) (fun c8 => ?_) (fun c8 => ?_)
  · refine r_iconst (pc := 20) (v := (-1)) X dX7_stand_20 (by decide) ?_
    refine r_iret (pc := 21) X dX7_stand_21 rfl rfl ?_
    refine ⟨QC.mk (σ1 := σ) ?_ R FR.rf, rfl⟩
    simp (decide := true) [f_stand, c8]
  · refine r_iload_n (pc := 11) X dX7_stand_11 rfl ?_
    refine r_iconst (pc := 12) (v := (nI 0)) X dX7_stand_12 (by decide) ?_
    refine r_iconst (pc := 13) (v := (nI 1)) X dX7_stand_13 (by decide) ?_
    refine r_c1_3P (pc := 14) X rfl dX7_stand_14 tc_7_53 mm_X7_isWithin (e_in (d + 7) x (nI 0) (nI 1)) (Nat.le_of_ble_eq_true rfl) ?_
    refine r_if_neB (pc := 17) X dX7_stand_17 (tgt := 22) (by decide) (fun c17 => ?_) (fun c17 => ?_)
    · obtain ⟨p, hp, hp6, rfl⟩ := has_nat O.w c8
      have cp := nI_clamp (show p < 2 ^ 31 by omega)
      refine r_iload_n (pc := 22) X dX7_stand_22 rfl ?_
      refine r_iconst (pc := 23) (v := (nI 1)) X dX7_stand_23 (by decide) ?_
      refine r_bipush (pc := 24) (v := (nI 60)) X dX7_stand_24 (by decide) ?_
      refine r_c1_3P (pc := 26) X rfl dX7_stand_26 tc_7_53 mm_X7_isWithin (e_in (d + 7) n (nI 1) (nI 60)) (Nat.le_of_ble_eq_true rfl) ?_
      refine r_if_neB (pc := 29) X dX7_stand_29 (tgt := 35) (by decide) (fun c29 => ?_) (fun c29 => ?_)
      · obtain ⟨t, ht0, ht, rfl⟩ := inF_lo c29 (by omega) (by omega)
        have ct := nI_clamp (show t < 2 ^ 31 by omega)
        refine r_iconst (pc := 35) (v := (nI 0)) X dX7_stand_35 (by decide) ?_
        refine r_istore (pc := 36) X dX7_stand_36 (Nat.le_of_ble_eq_true rfl) ?_
        refine r_ldc (pc := 38) (v := 2147483647) X dX7_stand_38 tk_7_168 ?_
        refine r_istore (pc := 40) X dX7_stand_40 (Nat.le_of_ble_eq_true rfl) ?_
        refine r_iconst (pc := 42) (v := (nI 0)) X dX7_stand_42 (by decide) ?_
        refine r_istore (pc := 43) X dX7_stand_43 (Nat.le_of_ble_eq_true rfl) ?_
        refine l_stand d O hB X hp6 ht rfl (fun g M1 R1 F1 => ⟨QC.mk ?_ R1 F1, F1.1⟩) 20 0 h M _ _ _ (by omega) R FR.rf rfl
        simp (decide := true) [f_stand, c8, c17, c29, cp, ct]
      · refine r_bipush (pc := 32) (v := (-2)) X dX7_stand_32 (by decide) ?_
        refine r_iret (pc := 34) X dX7_stand_34 rfl rfl ?_
        refine ⟨QC.mk (σ1 := σ) ?_ R FR.rf, rfl⟩
        simp (decide := true) [f_stand, c8, c17, c29]
    · refine r_iconst (pc := 20) (v := (-1)) X dX7_stand_20 (by decide) ?_
      refine r_iret (pc := 21) X dX7_stand_21 rfl rfl ?_
      refine ⟨QC.mk (σ1 := σ) ?_ R FR.rf, rfl⟩
      simp (decide := true) [f_stand, c8, c17]
set_option maxRecDepth 10000 in
set_option maxHeartbeats 4000000 in
theorem l_needs : ∀ (d : Nat) {σ : SG} {h0 : hp_T} {M0 : Mem} {B0 : Nat} (O : OK B0 σ) (hB : B0 + 2000 ≤ 1000000) {w : wc_T} {κ : cx_T} {Φ : Option Value → hp_T → Prop} (X : CX w κ (d + 8) 7 cX7_needs 4 (some .int) Φ) {p t : Nat} (hp6 : p < 6) (ht : t ≤ 60) {F : Nat → Bool} (hF : F = fun e => !decide (goF (EE σ) t (vU (sV σ) 4 p (nI e)) 0 10 = nI p)) {rr : Int32}
    (hΦ : ∀ g M1, CRep σ g M1 → FR h0 M0 g M1 → Φ (some (.int rr)) (wi g M1)),
    ∀ (m : Nat) (k : Nat) (g : hp_T) (M : Mem), k + m = 10 → CRep σ g M → FR h0 M0 g M → afst F m k = rr → GG w κ 28 [some (.ref 23), some (.int (nI p)), some (.int (nI t)), some (.int (nI k))] [] (wi g M) := by
  intro d σ h0 M0 B0 O hB w κ Φ X p t hp6 ht F hF rr hΦ m
  have h6 := O.w.2.1
  induction m with
  | zero =>
    intro k g M hk R F hA
    have e : k = 10 := by omega
    subst e
    subst hA
    refine r_iload_n (pc := 28) X dX7_needs_28 rfl ?_
    refine r_bipush (pc := 29) (v := (nI 9)) X dX7_needs_29 (by decide) ?_
    refine r_icmp_gtN (pc := 31) X dX7_needs_31 (tgt := 82) (by decide) (by omega) (by omega) (fun c31 => ?_) (fun c31 => ?_)
    · refine r_bipush (pc := 82) (v := (-5)) X dX7_needs_82 (by decide) ?_
      refine r_iret (pc := 84) X dX7_needs_84 rfl rfl ?_
      exact hΦ g M R F
    · exact absurd (by omega) c31
  | succ m ih =>
    intro k g M hk R F hA
    have C := R.C
    subst hF
    refine r_iload_n (pc := 28) X dX7_needs_28 rfl ?_
    refine r_bipush (pc := 29) (v := (nI 9)) X dX7_needs_29 (by decide) ?_
    refine r_icmp_gtN (pc := 31) X dX7_needs_31 (tgt := 82) (by decide) (by omega) (by omega) (fun c31 => ?_) (fun c31 => ?_)
    · exact absurd c31 (by omega)
    · refine r_aload_n (pc := 34) X dX7_needs_34 rfl ?_
      refine r_getr (pc := 35) X dX7_needs_35 tf_7_29 rfl (kc_23 C) (rc_23_4 C) ?_
      refine r_aload_n (pc := 38) X dX7_needs_38 rfl ?_
      refine r_getr (pc := 39) X dX7_needs_39 tf_7_25 rfl (kc_23 C) (rc_23_3 C) ?_
      refine r_c0_1G (pc := 42) X rfl dX7_needs_42 tc_7_147 mm_X5_become (kc_58 C) rfl rfl (t_become (d + 6) R) (Nat.le_of_ble_eq_true rfl) (fun v42 g42 q42 => ?_)
      obtain ⟨M42, g42, rfl, rfl, T42, F42⟩ := q42
      have C := T42.R.C
      refine r_aload_n (pc := 45) X dX7_needs_45 rfl ?_
      refine r_getr (pc := 46) X dX7_needs_46 tf_7_29 rfl (kc_23 C) (rc_23_4 C) ?_
      refine r_getr (pc := 49) X dX7_needs_49 tf_7_81 rfl (kc_58 C) (rc_58_3 C) ?_
      refine r_iload_n (pc := 52) X dX7_needs_52 rfl ?_
      refine r_iload_n (pc := 53) X dX7_needs_53 rfl ?_
      refine r_iastW (pc := 54) X dX7_needs_54 (kc_62 C) rfl hp6 (by omega) ?_
      obtain ⟨T54, F54⟩ := T42.uf (f := 4) (k := p) (x := nI k) (by omega) hp6 O.z
      have hW1 := O.w.pers (f := 4) (p := p) (x := nI k) (by omega) ⟨k, by simp; omega, rfl⟩
      refine r_aload_n (pc := 55) X dX7_needs_55 rfl ?_
      refine r_getr (pc := 56) X dX7_needs_56 tf_7_29 rfl (kc_23 C) (rc_23_4 C) ?_
      refine r_iload_n (pc := 59) X dX7_needs_59 rfl ?_
      refine r_c0_1VW (pc := 60) X rfl dX7_needs_60 tc_7_151 mm_X5_go (kc_58 C) rfl rfl (t_go (d + 2) t T54 O hW1 (O.z.U (by omega)) (by omega) (by omega)) (Nat.le_of_ble_eq_true rfl) (fun M60 q60 => ?_)
      obtain ⟨T60, F60⟩ := q60
      have F9 := ((F.tr F42).tr F54).tr F60
      refine r_aload_n (pc := 63) X dX7_needs_63 rfl ?_
      refine r_getr (pc := 64) X dX7_needs_64 tf_7_29 rfl (kc_23 C) (rc_23_4 C) ?_
      refine r_getiW (pc := 67) X dX7_needs_67 tf_7_135 rfl (kc_58 C) (T60.a0 10) ?_
      refine r_iload_n (pc := 70) X dX7_needs_70 rfl ?_
      refine r_icmp_eq (pc := 71) X dX7_needs_71 (tgt := 76) (by decide) (fun c71 => ?_) (fun c71 => ?_)
      · refine r_iinc (pc := 76) X dX7_needs_76 rfl (by first | exact nI_i1 _ | rfl) ?_
        refine r_goto (pc := 79) X dX7_needs_79 (tgt := 28) (by decide) ?_
        exact ih (k + 1) g42 M60 (by omega) T60.R F9 ((if_neg (by simp only [decide_eq_true c71]; decide)).symm.trans hA)
      · refine r_iload_n (pc := 74) X dX7_needs_74 rfl ?_
        refine r_iret (pc := 75) X dX7_needs_75 rfl rfl ?_
        have e9 : afst (fun e => !decide (goF (EE σ) t (vU (sV σ) 4 p (nI e)) 0 10 = nI p)) (m + 1) k = nI k := if_pos (by simp only [decide_eq_false c71]; rfl)
        rw [e9] at hA
        subst hA
        exact hΦ g42 M60 T60.R F9
set_option maxRecDepth 10000 in
set_option maxHeartbeats 4000000 in
theorem k_needs : ∀ (d : Nat) (p n : Int32) {σ : SG} {h : hp_T} {M : Mem} {B0 : Nat} (R : CRep σ h M) (O : OK B0 σ) (hB : B0 + 2000 ≤ 1000000), Ex (d + 8) nX7_needs [.ref 23, .int p, .int n] (wi h M) 0 0 (QC (f_needs σ p n) h M) := by
  intro d p n σ h M B0 R O hB
  have C := R.C
  refine Ex.of mm_X7_needs (Nat.le_of_ble_eq_true rfl) fun w κ X hk hnm => ?_
  refine r_aload_n (pc := 0) X dX7_needs_0 rfl ?_
  refine r_getr (pc := 1) X dX7_needs_1 tf_7_25 rfl (kc_23 C) (rc_23_3 C) ?_
  refine r_iload_n (pc := 4) X dX7_needs_4 rfl ?_
  refine r_c0_1P (pc := 5) X rfl dX7_needs_5 tc_7_68 mm_X5_has (kc_25 C) rfl rfl (u_has (d + 7) p R) (Nat.le_of_ble_eq_true rfl) ?_
  refine r_if_neB (pc := 8) X dX7_needs_8 (tgt := 13) (by decide) (fun c8 => ?_) (fun c8 => ?_)
  · obtain ⟨p, hp, hp6, rfl⟩ := has_nat O.w c8
    have cp := nI_clamp (show p < 2 ^ 31 by omega)
    refine r_iload_n (pc := 13) X dX7_needs_13 rfl ?_
    refine r_iconst (pc := 14) (v := (nI 1)) X dX7_needs_14 (by decide) ?_
    refine r_bipush (pc := 15) (v := (nI 60)) X dX7_needs_15 (by decide) ?_
    refine r_c1_3P (pc := 17) X rfl dX7_needs_17 tc_7_53 mm_X7_isWithin (e_in (d + 7) n (nI 1) (nI 60)) (Nat.le_of_ble_eq_true rfl) ?_
    refine r_if_neB (pc := 20) X dX7_needs_20 (tgt := 26) (by decide) (fun c20 => ?_) (fun c20 => ?_)
    · obtain ⟨t, ht0, ht, rfl⟩ := inF_lo c20 (by omega) (by omega)
      have ct := nI_clamp (show t < 2 ^ 31 by omega)
      refine r_iconst (pc := 26) (v := (nI 0)) X dX7_needs_26 (by decide) ?_
      refine r_istore_n (pc := 27) X dX7_needs_27 (Nat.le_of_ble_eq_true rfl) ?_
      refine l_needs d O hB X hp6 ht rfl (fun g M1 R1 F1 => ⟨QC.mk ?_ R1 F1, F1.1⟩) 10 0 h M (by omega) R FR.rf rfl
      simp (decide := true) [f_needs, c8, c20, cp, ct]
    · refine r_bipush (pc := 23) (v := (-2)) X dX7_needs_23 (by decide) ?_
      refine r_iret (pc := 25) X dX7_needs_25 rfl rfl ?_
      refine ⟨QC.mk (σ1 := σ) ?_ R FR.rf, rfl⟩
      simp (decide := true) [f_needs, c8, c20]
  · refine r_iconst (pc := 11) (v := (-1)) X dX7_needs_11 (by decide) ?_
    refine r_iret (pc := 12) X dX7_needs_12 rfl rfl ?_
    refine ⟨QC.mk (σ1 := σ) ?_ R FR.rf, rfl⟩
    simp (decide := true) [f_needs, c8]
set_option maxRecDepth 10000 in
set_option maxHeartbeats 4000000 in
theorem l_heavy : ∀ (d : Nat) {σ : SG} {h0 : hp_T} {M0 : Mem} {B0 : Nat} (O : OK B0 σ) (hB : B0 + 2000 ≤ 1000000) {w : wc_T} {κ : cx_T} {Φ : Option Value → hp_T → Prop} (X : CX w κ (d + 8) 7 cX7_heavy 4 (some .int) Φ) {p : Nat} {V : VT} (hp6 : p < 6) (hW : WF B0 V) (hz : ZV V) {rr : Int32}
    (hΦ : ∀ g M1, CRep σ g M1 → FR h0 M0 g M1 → Φ (some (.int rr)) (wi g M1)),
    ∀ (m : Nat) (g : hp_T) (M : Mem) (x : Int32) (z : Option Value), m ≤ 125 → TS σ g M (vU V 0 8 x) → FR h0 M0 g M → hvF (hvO (EE σ) V p) m = rr → GG w κ 22 [some (.ref 23), some (.int (nI p)), some (.int (lowF m)), z] [] (wi g M) := by
  intro d σ h0 M0 B0 O hB w κ Φ X p V hp6 hW hz rr hΦ m
  have h6 := O.w.2.1
  induction m with
  | zero =>
    intro g M x z hm T F hA
    have C := T.R.C
    subst hA
    refine r_iload_n (pc := 22) X dX7_heavy_22 rfl ?_
    refine r_if_lt (pc := 23) X dX7_heavy_23 (tgt := 86) (by decide) (fun c23 => ?_) (fun c23 => ?_)
    · refine r_bipush (pc := 86) (v := (-5)) X dX7_heavy_86 (by decide) ?_
      refine r_iret (pc := 88) X dX7_heavy_88 rfl rfl ?_
      exact hΦ g M T.R F
    · exact absurd (show lowF 0 < 0 by decide) c23
  | succ m ih =>
    intro g M x z hm T F hA
    have C := T.R.C
    have hP := vP_U (V := V) (f := 0) (i := 8) (x := nI (8 * m + 7)) (by omega)
    have hw6 := hW.2.1
    show GG w κ 22 [some (.ref 23), some (.int (nI p)), some (.int (nI (8 * m))), z] [] (wi g M)
    refine r_iload_n (pc := 22) X dX7_heavy_22 rfl ?_
    refine r_if_lt (pc := 23) X dX7_heavy_23 (tgt := 86) (by decide) (fun c23 => ?_) (fun c23 => ?_)
    · exact absurd c23 (nI_pos (by omega))
    · refine r_aload_n (pc := 26) X dX7_heavy_26 rfl ?_
      refine r_getr (pc := 27) X dX7_heavy_27 tf_7_29 rfl (kc_23 C) (rc_23_4 C) ?_
      refine r_iload_n (pc := 30) X dX7_heavy_30 rfl ?_
      refine r_bipush (pc := 31) (v := (nI 8)) X dX7_heavy_31 (by decide) ?_
      refine r_iadd (pc := 33) X dX7_heavy_33 ?_
      refine r_iconst (pc := 34) (v := (nI 1)) X dX7_heavy_34 (by decide) ?_
      refine r_isub (pc := 35) X dX7_heavy_35 ?_
      refine r_top (y := nI (8 * m + 7)) (by rw [nI_add, nI_subn (by omega)]; rfl) ?_
      refine r_putiW (pc := 36) X dX7_heavy_36 tf_7_108 rfl (Or.inl rfl) (kc_58 C) ⟨rfl, rfl⟩ ?_
      obtain ⟨T36, F36⟩ := T.u0 (k := 8) (x := nI (8 * m + 7)) (by omega) (hz.U (by omega))
      rw [vU_vU] at T36
      have hW1 : WF B0 (vU V 0 8 (nI (8 * m + 7))) := hW.weight (by omega)
      have hz1 : ZV (vU V 0 8 (nI (8 * m + 7))) := hz.U (by omega)
      have F9 := F.tr F36
      refine r_aload_n (pc := 39) X dX7_heavy_39 rfl ?_
      refine r_getr (pc := 40) X dX7_heavy_40 tf_7_29 rfl (kc_23 C) (rc_23_4 C) ?_
      refine r_iload_n (pc := 43) X dX7_heavy_43 rfl ?_
      refine r_c0_1P (pc := 44) X rfl dX7_heavy_44 tc_7_91 mm_X5_target (kc_58 C) rfl rfl (t_target (d + 4) T36 O hW1 hp6) (Nat.le_of_ble_eq_true rfl) ?_
      refine r_istore_n (pc := 47) X dX7_heavy_47 (Nat.le_of_ble_eq_true rfl) ?_
      refine r_iload_n (pc := 48) X dX7_heavy_48 rfl ?_
      refine r_if_lt (pc := 49) X dX7_heavy_49 (tgt := 80) (by decide) (fun c49 => ?_) (fun c49 => ?_)
      · refine r_iinc (pc := 80) X dX7_heavy_80 rfl (low_dec m) ?_
        refine r_goto (pc := 83) X dX7_heavy_83 (tgt := 22) (by decide) ?_
        exact ih g _ (nI (8 * m + 7)) _ (by omega) T36 F9 ((if_neg (by unfold hvO; rw [enc_no (fun q hq => by have := tg_lt hq; rw [hP] at this; omega) c49]; exact Bool.false_ne_true)).symm.trans hA)
      · obtain ⟨q, eq⟩ := enc_so c49
        have hq := tg_lt eq
        rw [hP] at hq
        rw [eq]
        refine r_aload_n (pc := 52) X dX7_heavy_52 rfl ?_
        refine r_getr (pc := 53) X dX7_heavy_53 tf_7_29 rfl (kc_23 C) (rc_23_4 C) ?_
        refine r_iload_n (pc := 56) X dX7_heavy_56 rfl ?_
        refine r_iload_n (pc := 57) X dX7_heavy_57 rfl ?_
        refine r_c0_2P (pc := 58) X rfl dX7_heavy_58 tc_7_169 mm_X5_way (kc_58 C) rfl rfl (t_way (d + 6) T36 hp6 (show q < 6 by omega)) (Nat.le_of_ble_eq_true rfl) ?_
        refine r_aload_n (pc := 61) X dX7_heavy_61 rfl ?_
        refine r_getr (pc := 62) X dX7_heavy_62 tf_7_29 rfl (kc_23 C) (rc_23_4 C) ?_
        refine r_iload_n (pc := 65) X dX7_heavy_65 rfl ?_
        refine r_c0_1P (pc := 66) X rfl dX7_heavy_66 tc_7_87 mm_X5_reach (kc_58 C) rfl rfl (t_reach (d + 6) T36 O hW1 hp6) (Nat.le_of_ble_eq_true rfl) ?_
        refine r_icmp_gt (pc := 69) X dX7_heavy_69 (tgt := 80) (by decide) (fun c69 => ?_) (fun c69 => ?_)
        · refine r_iinc (pc := 80) X dX7_heavy_80 rfl (low_dec m) ?_
          refine r_goto (pc := 83) X dX7_heavy_83 (tgt := 22) (by decide) ?_
          exact ih g _ (nI (8 * m + 7)) _ (by omega) T36 F9 ((if_neg (by unfold hvO; rw [eq]; simp only [decide_eq_true c69]; decide)).symm.trans hA)
        · refine r_aload_n (pc := 72) X dX7_heavy_72 rfl ?_
          refine r_getr (pc := 73) X dX7_heavy_73 tf_7_29 rfl (kc_23 C) (rc_23_4 C) ?_
          refine r_getiW (pc := 76) X dX7_heavy_76 tf_7_108 rfl (kc_58 C) (T36.a0 8) ?_
          refine r_iret (pc := 79) X dX7_heavy_79 rfl rfl ?_
          have e9 : hvF (hvO (EE σ) V p) (m + 1) = nI (8 * m + 7) := if_pos (by unfold hvO; rw [eq]; simp only [decide_eq_false c69]; rfl)
          rw [e9] at hA
          subst hA
          rw [vU_eq]
          exact hΦ g _ T36.R F9
set_option maxRecDepth 10000 in
set_option maxHeartbeats 4000000 in
theorem k_heavy : ∀ (d : Nat) (p : Int32) {σ : SG} {h : hp_T} {M : Mem} {B0 : Nat} (R : CRep σ h M) (O : OK B0 σ) (hB : B0 + 2000 ≤ 1000000), Ex (d + 8) nX7_heavy [.ref 23, .int p] (wi h M) 0 0 (QC (f_heavy σ p) h M) := by
  intro d p σ h M B0 R O hB
  have C := R.C
  refine Ex.of mm_X7_heavy (Nat.le_of_ble_eq_true rfl) fun w κ X hk hnm => ?_
  refine r_aload_n (pc := 0) X dX7_heavy_0 rfl ?_
  refine r_getr (pc := 1) X dX7_heavy_1 tf_7_25 rfl (kc_23 C) (rc_23_3 C) ?_
  refine r_iload_n (pc := 4) X dX7_heavy_4 rfl ?_
  refine r_c0_1P (pc := 5) X rfl dX7_heavy_5 tc_7_68 mm_X5_has (kc_25 C) rfl rfl (u_has (d + 7) p R) (Nat.le_of_ble_eq_true rfl) ?_
  refine r_if_neB (pc := 8) X dX7_heavy_8 (tgt := 13) (by decide) (fun c8 => ?_) (fun c8 => ?_)
  · obtain ⟨p, hp, hp6, rfl⟩ := has_nat O.w c8
    have cp := nI_clamp (show p < 2 ^ 31 by omega)
    refine r_aload_n (pc := 13) X dX7_heavy_13 rfl ?_
    refine r_iload_n (pc := 14) X dX7_heavy_14 rfl ?_
    refine r_c0_1G (pc := 15) X rfl dX7_heavy_15 tc_7_163 mm_X7_startWith (kc_23 C) rfl rfl (t_start (d + 5) R O hp) (Nat.le_of_ble_eq_true rfl) (fun v15 g15 q15 => ?_)
    obtain ⟨M15, g15, rfl, rfl, T15, F15⟩ := q15
    have C := T15.R.C
    rw [← vU_id (V := handF (sV σ) (nI p)) (f := 0) (i := 8)] at T15
    refine r_sipush (pc := 18) (v := (nI 992)) X dX7_heavy_18 (by decide) ?_
    refine r_istore_n (pc := 21) X dX7_heavy_21 (Nat.le_of_ble_eq_true rfl) ?_
    refine l_heavy d O hB X hp6 (O.w.handN hp) O.z.hand (fun g M1 R1 F1 => ⟨QC.mk ?_ R1 F1, F1.1⟩) 125 g15 M15 _ _ (by omega) T15 F15 rfl
    simp (decide := true) [f_heavy, c8, cp]
  · refine r_iconst (pc := 11) (v := (-1)) X dX7_heavy_11 (by decide) ?_
    refine r_iret (pc := 12) X dX7_heavy_12 rfl rfl ?_
    refine ⟨QC.mk (σ1 := σ) ?_ R FR.rf, rfl⟩
    simp (decide := true) [f_heavy, c8]
set_option maxRecDepth 10000 in
set_option maxHeartbeats 4000000 in
theorem l_chI : ∀ (d : Nat) {σ : SG} {h0 : hp_T} {M0 : Mem} {B0 : Nat} (O : OK B0 σ) (hB : B0 + 2000 ≤ 1000000) {w : wc_T} {κ : cx_T} {Φ : Option Value → hp_T → Prop} (X : CX w κ (d + 8) 7 cX7_change 6 (some .int) Φ) {a P : Nat} (hP : vP (sV σ) = P) (ha : a < P) {F : Nat → Nat → Int32} (hF : F = fun a b => nI (endN (EE σ) (chV (sV σ) a b))) {rr : Int32 × Int32}
    (hT : ∀ g M1 y z, CRep σ g M1 → FR h0 M0 g M1 → GG w κ 133 [some (.ref 23), some (.int rr.2), some (.int rr.1), some (.int (nI a)), y, z] [] (wi g M1)),
    ∀ (m : Nat) (b : Nat) (g : hp_T) (M : Mem) (x l : Int32) (z : Option Value), a < b → b + m = P → CRep σ g M → FR h0 M0 g M → chI F a m b x l = rr → GG w κ 40 [some (.ref 23), some (.int l), some (.int x), some (.int (nI a)), some (.int (nI b)), z] [] (wi g M) := by
  intro d σ h0 M0 B0 O hB w κ Φ X a P hP ha F hF rr hT m
  have h6 := O.w.2.1
  subst hP
  induction m with
  | zero =>
    intro b g M x l z hab hk R F hA
    have C := R.C
    have e : b = vP (sV σ) := by omega
    subst e
    subst hA
    refine r_iload (pc := 40) X dX7_change_40 rfl ?_
    refine r_aload_n (pc := 42) X dX7_change_42 rfl ?_
    refine r_getr (pc := 43) X dX7_change_43 tf_7_25 rfl (kc_23 C) (rc_23_3 C) ?_
    refine r_getiW (pc := 46) X dX7_change_46 tf_7_160 rfl (kc_25 C) (R.pp O) ?_
    refine r_icmp_geN (pc := 49) X dX7_change_49 (tgt := 133) (by decide) (by omega) (by omega) (fun c49 => ?_) (fun c49 => ?_)
    · exact hT g M _ _ R F
    · exact absurd (Nat.le_refl _) c49
  | succ m ih =>
    intro b g M x l z hab hk R F hA
    have C := R.C
    have hb : b < vP (sV σ) := by omega
    obtain ⟨-, -, ⟨na, hna, ea⟩, -⟩ := O.w.2.2.2.2.2.2.1 a (by omega)
    obtain ⟨-, -, ⟨nb, hnb, eb⟩, -⟩ := O.w.2.2.2.2.2.2.1 b (by omega)
    have hW1 : WF B0 (chV (sV σ) a b) := (O.w.pers (f := 3) (p := a) (x := sV σ 3 b) (by omega) ⟨nb, by simp; omega, eb⟩).pers (f := 3) (p := b) (x := sV σ 3 a) (by omega) ⟨na, by simp; omega, ea⟩
    have hz0 : ZV (vU (sV σ) 3 a (sV σ 3 b)) := O.z.U (by omega)
    have hz1 : ZV (chV (sV σ) a b) := hz0.U (by omega)
    refine r_iload (pc := 40) X dX7_change_40 rfl ?_
    refine r_aload_n (pc := 42) X dX7_change_42 rfl ?_
    refine r_getr (pc := 43) X dX7_change_43 tf_7_25 rfl (kc_23 C) (rc_23_3 C) ?_
    refine r_getiW (pc := 46) X dX7_change_46 tf_7_160 rfl (kc_25 C) (R.pp O) ?_
    refine r_icmp_geN (pc := 49) X dX7_change_49 (tgt := 133) (by decide) (by omega) (by omega) (fun c49 => ?_) (fun c49 => ?_)
    · exact absurd c49 (by omega)
    · refine r_aload_n (pc := 52) X dX7_change_52 rfl ?_
      refine r_getr (pc := 53) X dX7_change_53 tf_7_29 rfl (kc_23 C) (rc_23_4 C) ?_
      refine r_aload_n (pc := 56) X dX7_change_56 rfl ?_
      refine r_getr (pc := 57) X dX7_change_57 tf_7_25 rfl (kc_23 C) (rc_23_3 C) ?_
      refine r_c0_1G (pc := 60) X rfl dX7_change_60 tc_7_147 mm_X5_become (kc_58 C) rfl rfl (t_become (d + 6) R) (Nat.le_of_ble_eq_true rfl) (fun v60 g60 q60 => ?_)
      obtain ⟨M60, g60, rfl, rfl, T60, F60⟩ := q60
      have C := T60.R.C
      refine r_aload_n (pc := 63) X dX7_change_63 rfl ?_
      refine r_getr (pc := 64) X dX7_change_64 tf_7_29 rfl (kc_23 C) (rc_23_4 C) ?_
      refine r_getr (pc := 67) X dX7_change_67 tf_7_78 rfl (kc_58 C) (rc_58_2 C) ?_
      refine r_iload_n (pc := 70) X dX7_change_70 rfl ?_
      refine r_aload_n (pc := 71) X dX7_change_71 rfl ?_
      refine r_getr (pc := 72) X dX7_change_72 tf_7_25 rfl (kc_23 C) (rc_23_3 C) ?_
      refine r_getr (pc := 75) X dX7_change_75 tf_7_78 rfl (kc_25 C) (rc_25_2 C) ?_
      refine r_iload (pc := 78) X dX7_change_78 rfl ?_
      refine r_ialdW (pc := 80) X dX7_change_80 (kc_28 C) rfl (by omega) (by omega) (T60.R.a3 b) ?_
      refine r_iastW (pc := 81) X dX7_change_81 (kc_61 C) rfl (by omega) (by omega) ?_
      obtain ⟨T81, F81⟩ := T60.uf (f := 3) (k := a) (x := sV σ 3 b) (by omega) (by omega) O.z
      refine r_aload_n (pc := 82) X dX7_change_82 rfl ?_
      refine r_getr (pc := 83) X dX7_change_83 tf_7_29 rfl (kc_23 C) (rc_23_4 C) ?_
      refine r_getr (pc := 86) X dX7_change_86 tf_7_78 rfl (kc_58 C) (rc_58_2 C) ?_
      refine r_iload (pc := 89) X dX7_change_89 rfl ?_
      refine r_aload_n (pc := 91) X dX7_change_91 rfl ?_
      refine r_getr (pc := 92) X dX7_change_92 tf_7_25 rfl (kc_23 C) (rc_23_3 C) ?_
      refine r_getr (pc := 95) X dX7_change_95 tf_7_78 rfl (kc_25 C) (rc_25_2 C) ?_
      refine r_iload_n (pc := 98) X dX7_change_98 rfl ?_
      refine r_ialdW (pc := 99) X dX7_change_99 (kc_28 C) rfl (by omega) (by omega) (T81.R.a3 a) ?_
      refine r_iastW (pc := 100) X dX7_change_100 (kc_61 C) rfl (by omega) (by omega) ?_
      obtain ⟨T100, F100⟩ := T81.uf (f := 3) (k := b) (x := sV σ 3 a) (by omega) (by omega) hz0
      refine r_aload_n (pc := 101) X dX7_change_101 rfl ?_
      refine r_getr (pc := 102) X dX7_change_102 tf_7_29 rfl (kc_23 C) (rc_23_4 C) ?_
      refine r_c0_0IW (pc := 105) X rfl dX7_change_105 tc_7_157 mm_X5_outlast (kc_58 C) rfl rfl (t_out (d + 2) T100 O hW1 hz1 (by omega)) (Nat.le_of_ble_eq_true rfl) (fun r105 M105 q105 => ?_)
      obtain ⟨rfl, R105, F105⟩ := q105
      have F9 := ((F.tr F60).tr (F81.tr F100)).tr F105
      refine r_istore (pc := 108) X dX7_change_108 (Nat.le_of_ble_eq_true rfl) ?_
      refine r_iload (pc := 110) X dX7_change_110 rfl ?_
      refine r_iload_n (pc := 112) X dX7_change_112 rfl ?_
      refine r_icmp_le (pc := 113) X dX7_change_113 (tgt := 127) (by decide) (fun c113 => ?_) (fun c113 => ?_)
      · refine r_iinc (pc := 127) X dX7_change_127 rfl (by first | exact nI_i1 _ | rfl) ?_
        refine r_goto (pc := 130) X dX7_change_130 (tgt := 40) (by decide) ?_
        exact ih (b + 1) g60 M105 _ _ _ (by omega) (by omega) R105 F9 (by subst hF; exact (if_pos c113).symm.trans hA)
      · refine r_iload (pc := 116) X dX7_change_116 rfl ?_
        refine r_istore_n (pc := 118) X dX7_change_118 (Nat.le_of_ble_eq_true rfl) ?_
        refine r_bipush (pc := 119) (v := (nI 10)) X dX7_change_119 (by decide) ?_
        refine r_iload_n (pc := 121) X dX7_change_121 rfl ?_
        refine r_imul (pc := 122) X dX7_change_122 ?_
        refine r_iload (pc := 123) X dX7_change_123 rfl ?_
        refine r_iadd (pc := 125) X dX7_change_125 ?_
        refine r_istore_n (pc := 126) X dX7_change_126 (Nat.le_of_ble_eq_true rfl) ?_
        refine r_iinc (pc := 127) X dX7_change_127 rfl (by first | exact nI_i1 _ | rfl) ?_
        refine r_goto (pc := 130) X dX7_change_130 (tgt := 40) (by decide) ?_
        exact ih (b + 1) g60 M105 _ _ _ (by omega) (by omega) R105 F9 (by subst hF; exact (if_neg c113).symm.trans hA)
set_option maxRecDepth 10000 in
set_option maxHeartbeats 4000000 in
theorem l_chO : ∀ (d : Nat) {σ : SG} {h0 : hp_T} {M0 : Mem} {B0 : Nat} (O : OK B0 σ) (hB : B0 + 2000 ≤ 1000000) {w : wc_T} {κ : cx_T} {Φ : Option Value → hp_T → Prop} (X : CX w κ (d + 8) 7 cX7_change 6 (some .int) Φ) {P : Nat} (hP : vP (sV σ) = P) {F : Nat → Nat → Int32} (hF : F = fun a b => nI (endN (EE σ) (chV (sV σ) a b))) {rr : Int32 × Int32}
    (hΦ : ∀ g M1, CRep σ g M1 → FR h0 M0 g M1 → Φ (some (.int rr.1)) (wi g M1)),
    ∀ (m : Nat) (a : Nat) (g : hp_T) (M : Mem) (x l : Int32) (y z : Option Value), a + m = P → CRep σ g M → FR h0 M0 g M → chO F P m a x l = rr → GG w κ 24 [some (.ref 23), some (.int l), some (.int x), some (.int (nI a)), y, z] [] (wi g M) := by
  intro d σ h0 M0 B0 O hB w κ Φ X P hP F hF rr hΦ m
  have h6 := O.w.2.1
  subst hP
  induction m with
  | zero =>
    intro a g M x l y z hk R F hA
    have C := R.C
    have e : a = vP (sV σ) := by omega
    subst e
    subst hA
    refine r_iload_n (pc := 24) X dX7_change_24 rfl ?_
    refine r_aload_n (pc := 25) X dX7_change_25 rfl ?_
    refine r_getr (pc := 26) X dX7_change_26 tf_7_25 rfl (kc_23 C) (rc_23_3 C) ?_
    refine r_getiW (pc := 29) X dX7_change_29 tf_7_160 rfl (kc_25 C) (R.pp O) ?_
    refine r_icmp_geN (pc := 32) X dX7_change_32 (tgt := 139) (by decide) (by omega) (by omega) (fun c32 => ?_) (fun c32 => ?_)
    · refine r_iload_n (pc := 139) X dX7_change_139 rfl ?_
      refine r_iret (pc := 140) X dX7_change_140 rfl rfl ?_
      exact hΦ g M R F
    · exact absurd (Nat.le_refl _) c32
  | succ m ih =>
    intro a g M x l y z hk R F hA
    have C := R.C
    refine r_iload_n (pc := 24) X dX7_change_24 rfl ?_
    refine r_aload_n (pc := 25) X dX7_change_25 rfl ?_
    refine r_getr (pc := 26) X dX7_change_26 tf_7_25 rfl (kc_23 C) (rc_23_3 C) ?_
    refine r_getiW (pc := 29) X dX7_change_29 tf_7_160 rfl (kc_25 C) (R.pp O) ?_
    refine r_icmp_geN (pc := 32) X dX7_change_32 (tgt := 139) (by decide) (by omega) (by omega) (fun c32 => ?_) (fun c32 => ?_)
    · exact absurd c32 (by omega)
    · refine r_iload_n (pc := 35) X dX7_change_35 rfl ?_
      refine r_iconst (pc := 36) (v := (nI 1)) X dX7_change_36 (by decide) ?_
      refine r_iadd (pc := 37) X dX7_change_37 ?_
      refine r_top (nI_add a 1) ?_
      refine r_istore (pc := 38) X dX7_change_38 (Nat.le_of_ble_eq_true rfl) ?_
      refine l_chI d O hB X rfl (show a < vP (sV σ) by omega) hF (fun g2 M2 y2 z2 R2 F2 => ?_) (vP (sV σ) - (a + 1)) (a + 1) g M _ _ _ (by omega) (by omega) R F rfl
      refine r_iinc (pc := 133) X dX7_change_133 rfl (by first | exact nI_i1 _ | rfl) ?_
      refine r_goto (pc := 136) X dX7_change_136 (tgt := 24) (by decide) ?_
      exact ih (a + 1) g2 M2 _ _ _ _ (by omega) R2 F2 hA
set_option maxRecDepth 10000 in
set_option maxHeartbeats 4000000 in
theorem k_change : ∀ (d : Nat) {σ : SG} {h : hp_T} {M : Mem} {B0 : Nat} (R : CRep σ h M) (O : OK B0 σ) (hB : B0 + 2000 ≤ 1000000), Ex (d + 8) nX7_change [.ref 23] (wi h M) 0 0 (QC (f_change σ) h M) := by
  intro d σ h M B0 R O hB
  have C := R.C
  refine Ex.of mm_X7_change (Nat.le_of_ble_eq_true rfl) fun w κ X hk hnm => ?_
  refine r_aload_n (pc := 0) X dX7_change_0 rfl ?_
  refine r_getr (pc := 1) X dX7_change_1 tf_7_29 rfl (kc_23 C) (rc_23_4 C) ?_
  refine r_aload_n (pc := 4) X dX7_change_4 rfl ?_
  refine r_getr (pc := 5) X dX7_change_5 tf_7_25 rfl (kc_23 C) (rc_23_3 C) ?_
  refine r_c0_1G (pc := 8) X rfl dX7_change_8 tc_7_147 mm_X5_become (kc_58 C) rfl rfl (t_become (d + 6) R) (Nat.le_of_ble_eq_true rfl) (fun v8 g8 q8 => ?_)
  obtain ⟨M8, g8, rfl, rfl, T8, F8⟩ := q8
  have C := T8.R.C
  refine r_aload_n (pc := 11) X dX7_change_11 rfl ?_
  refine r_getr (pc := 12) X dX7_change_12 tf_7_29 rfl (kc_23 C) (rc_23_4 C) ?_
  refine r_c0_0IW (pc := 15) X rfl dX7_change_15 tc_7_157 mm_X5_outlast (kc_58 C) rfl rfl (t_out (d + 2) T8 O O.w O.z (by omega)) (Nat.le_of_ble_eq_true rfl) (fun r15 M15 q15 => ?_)
  obtain ⟨rfl, R15, F15⟩ := q15
  refine r_istore_n (pc := 18) X dX7_change_18 (Nat.le_of_ble_eq_true rfl) ?_
  refine r_bipush (pc := 19) (v := (-5)) X dX7_change_19 (by decide) ?_
  refine r_istore_n (pc := 21) X dX7_change_21 (Nat.le_of_ble_eq_true rfl) ?_
  refine r_iconst (pc := 22) (v := (nI 0)) X dX7_change_22 (by decide) ?_
  refine r_istore_n (pc := 23) X dX7_change_23 (Nat.le_of_ble_eq_true rfl) ?_
  exact l_chO d O hB X rfl rfl (fun g M1 R1 F1 => ⟨QC.mk rfl R1 F1, F1.1⟩) (vP (sV σ)) 0 g8 M15 _ _ _ _ (by omega) R15 (F8.tr F15) rfl
