/-! compile -/
def loopF (T : TX) : Nat → CR → CR
  | 0, r => r
  | k + 1, r => if r.1 = true then (if aheadN T r.2.1 = 59 then loopF T k (clauseF T (r.2.1 + 1) r.2.2.1 r.2.2.2) else r) else r
def compF (T : TX) : CR := loopF T 9 (clauseF T 0 [] (12, 5))
def standF (T : TX) : Bool := (compF T).1 && decide ((compF T).2.1 = T.1)
def TxS (T : TX) (M : Mem) : Prop := M 65 1 = nI T.1 ∧ T.1 ≤ 100 ∧ ∀ i, i < T.1 → M 66 i = nI (T.2 i) ∧ T.2 i ≤ 127
section RW24
variable {w : wc_T} {κ : cx_T} {d own nL : Nat} {cc : ByteArray} {rt : Option FieldType} {Φ : Option Value → hp_T → Prop} {pc : Nat} {L : List (Option Value)} {st : List Value} {h : hp_T}
theorem r_c0_0M (X : CX w κ (d + 1) own cc nL rt Φ) {idx n b ci c s : Nat} {Q : Option Value → hp_T → Prop} {x : mt_T} (hln : L.length = nL) (dc : decode cc pc = .ok (.invokevirtual idx, 3)) (f : tc own idx n 0 0) (hm : mt_at n x) {r : vw_C} (hs : ck h b 0 ci) (hr : vwCl[ci]? = some r) (hC : r.1 = x.1.cls) (he : Ex d n [.ref b] h c s Q) (hc : h_n h + c ≤ (k_1 κ).1 ∧ h_s h + s ≤ (k_1 κ).2) (hw : (st.map fun v => v.category).sum ≤ 8) (kk : ∀ (v : Option Value) (h1 : hp_T), Q v h1 → h1.1 = (h_n h + c, h_s h + s) → GG w κ (pc + 3) L (v.toList ++ st) h1) : GG w κ pc L (.ref b :: st) h :=
  fun hg => r_call0 (As := []) X hln dc f hm (obj_recv X hs hr hC) rfl he hc hw kk hg
theorem r_c4_2M (X : CX w κ (d + 1) own cc nL rt Φ) {idx n c s : Nat} {x1 x2 : Value} {Q : Option Value → hp_T → Prop} {x : mt_T} (hln : L.length = nL) (dc : decode cc pc = .ok (.invokestatic idx, 3)) (f : tc own idx n 4 2) (hm : mt_at n x) (he : Ex d n [x1, x2] h c s Q) (hc : h_n h + c ≤ (k_1 κ).1 ∧ h_s h + s ≤ (k_1 κ).2) (hw : (st.map fun v => v.category).sum ≤ 8) (kk : ∀ (v : Option Value) (h1 : hp_T), Q v h1 → h1.1 = (h_n h + c, h_s h + s) → GG w κ (pc + 3) L (v.toList ++ st) h1) : GG w κ pc L (x2 :: x1 :: st) h :=
  fun hg => r_call4 (As := [x1, x2]) X hln dc f hm rfl he hc hw kk hg
theorem r_c1_2M (X : CX w κ (d + 1) own cc nL rt Φ) {idx n c s : Nat} {x1 x2 : Value} {Q : Option Value → hp_T → Prop} {x : mt_T} (hln : L.length = nL) (dc : decode cc pc = .ok (.invokestatic idx, 3)) (f : tc own idx n 1 2) (hm : mt_at n x) (he : Ex d n [x1, x2] h c s Q) (hc : h_n h + c ≤ (k_1 κ).1 ∧ h_s h + s ≤ (k_1 κ).2) (hw : (st.map fun v => v.category).sum ≤ 8) (kk : ∀ (v : Option Value) (h1 : hp_T), Q v h1 → h1.1 = (h_n h + c, h_s h + s) → GG w κ (pc + 3) L (v.toList ++ st) h1) : GG w κ pc L (x2 :: x1 :: st) h :=
  fun hg => r_call1 (As := [x1, x2]) X hln dc f hm rfl he hc hw kk hg
theorem r_s2_3G (X : CX w κ (d + 1) own cc nL rt Φ) {idx n b : Nat} {x1 x2 x3 : Value} {Q : Option Value → hp_T → Prop} {x : mt_T} (hln : L.length = nL) (dc : decode cc pc = .ok (.invokespecial idx, 3)) (f : tc own idx n 2 3) (hm : mt_at n x) (hv : x.2.2.2.1 = none) (hb : 23 ≤ b) (he : Ex d n [.ref b, x1, x2, x3] h 0 0 Q) (hw : (st.map fun v => v.category).sum ≤ 8) (kk : ∀ (v : Option Value) (h1 : hp_T), Q v h1 → GG w κ (pc + 3) L (v.toList ++ st) h1) : GG w κ pc L (x3 :: x2 :: x1 :: .ref b :: st) h :=
  fun hg => r_call2 (As := [x1, x2, x3]) X hln dc f hm hv hb rfl he ⟨by omega, by omega⟩ hw (fun v1 h1 hq _ => kk v1 h1 hq) hg
end RW24
theorem csR_in : ∀ q ∈ csR, ∃ k ∈ csK, k.1 = q.1 := by decide +kernel
theorem CS.nC {h : hp_T} (C : CS h) {t n len : Nat} : CS (_root_.Jvm.Pilot.CLastAtPumpLaw_law_r4897_fbdc39.nC h t n len) := by
  refine ⟨fun q hq => ck_nC (C.1 q hq), fun q hq => ?_⟩
  obtain ⟨k, hk, e⟩ := csR_in q hq
  have h1 := (C.1 k hk).2.2
  rw [e] at h1
  show (if q.1 = h_n h then (fun _ => none) else h_r h q.1) q.2.1 = _
  rw [if_neg (Nat.ne_of_lt h1)]
  exact C.2 q hq
theorem RdS.start {T : TX} {M M1 : Mem} (S : TxS T M) (h66 : M1 66 = M 66) (h1 : M1 65 1 = M 65 1) (h2 : M1 65 2 = nI 0) (h5 : M1 65 5 = nI 0) : RdS T 0 [] M1 := by
  refine ⟨⟨h1.trans S.1, S.2.1, fun i hi => ?_⟩, ⟨h2, Nat.zero_le _⟩, ⟨h5, Nat.le_refl _⟩, fun i hi => absurd hi (Nat.not_lt_zero _)⟩
  rw [h66]
  exact S.2.2 i hi
theorem nC_wi {h : hp_T} {M : Mem} {t n len : Nat} : nC (wi h M) t n len = wi (nC h t n len) (mU M (h_n h) (fun _ => 0)) := rfl
theorem nC_wi2 {h : hp_T} {M : Mem} {t n len : Nat} {g : Nat → Int32} : sI (nC (wi h M) t n len) (h_n (wi h M)) g = wi (nC h t n len) (mU M (h_n h) g) := by
  have e : mU (mU M (h_n h) (fun _ => 0)) (h_n h) g = mU M (h_n h) g := mU_mU
  show wi (nC h t n len) (mU (mU M (h_n h) (fun _ => 0)) (h_n h) g) = _
  rw [e]
theorem stand_t {T : TX} (h1 : (compF T).1 = true) (h2 : (compF T).2.1 = T.1) : standF T = true := by
  unfold standF
  rw [h1, decide_eq_true h2]
  rfl
theorem stand_1 {T : TX} (h : standF T = true) : (compF T).1 = true ∧ (compF T).2.1 = T.1 := by
  unfold standF at h
  rw [Bool.and_eq_true, decide_eq_true_eq] at h
  exact h
/-- behind an evening that stands: its object and its codes -/
def evH (h : hp_T) (u : Nat) : hp_T := sR (nC (nC h 0 1 3) 1 u u) (h_n h) (va_up (h_r (nC (nC h 0 1 3) 1 u u) (h_n h)) 0 (some (h_n h + 1)))
def evQ (T : TX) (h : hp_T) (M : Mem) (v2 : Option Value) (h2 : hp_T) : Prop := ∃ M1 : Mem, (standF T = true → v2 = some (.ref (h_n h)) ∧ h2 = wi (evH h (compF T).2.2.1.length) M1 ∧ M1 (h_n h) 1 = nI (compF T).2.2.2.1 ∧ M1 (h_n h) 2 = nI (compF T).2.2.2.2 ∧ ∀ i, i < (compF T).2.2.1.length → M1 (h_n h + 1) i = nI ((compF T).2.2.1.getD i 0)) ∧ (standF T = false → v2 = some .null ∧ h2 = wi h M1) ∧ M1 65 1 = nI 0 ∧ M1 65 2 = nI (compF T).2.1 ∧ ∀ b, b < h_n h → b ≠ 65 → b ≠ 67 → M1 b = M b
set_option maxRecDepth 10000 in
set_option maxHeartbeats 4000000 in
theorem e_evinit : ∀ (d : Nat) (a b : Int32) {h : hp_T} {M : Mem} {o cd : Nat} (ho : ck h o 0 1), Ex (d + 1) nX1_init [.ref o, .ref cd, .int a, .int b] (wi h M) 0 0 (fun v2 h2 => v2 = none ∧ h2 = wi (sR h o (va_up (h_r h o) 0 (some cd))) (mU (mU M o (upd (M o) 1 a)) o (upd (mU M o (upd (M o) 1 a) o) 2 b))) := by
  intro d a b h M o cd ho
  refine Ex.of mm_X1_init (Nat.le_of_ble_eq_true rfl) fun w κ X hk hnm => ?_
  refine r_aload_n (pc := 0) X dX1_init_0 rfl ?_
  refine r_obj (pc := 1) X rfl dX1_init_1 to_1_1 (Nat.le_of_ble_eq_true rfl) ho.2.1 ?_
  refine r_aload_n (pc := 4) X dX1_init_4 rfl ?_
  refine r_aload_n (pc := 5) X dX1_init_5 rfl ?_
  refine r_putrW (pc := 6) (r := (some cd)) X dX1_init_6 tf_1_7 rfl (Or.inr ⟨rfl, hnm, rfl⟩) ho ?_
  refine r_aload_n (pc := 9) X dX1_init_9 rfl ?_
  refine r_iload_n (pc := 10) X dX1_init_10 rfl ?_
  refine r_putiW (pc := 11) X dX1_init_11 tf_1_13 rfl (Or.inr ⟨rfl, hnm, rfl⟩) ho ⟨rfl, rfl⟩ ?_
  refine r_aload_n (pc := 14) X dX1_init_14 rfl ?_
  refine r_iload_n (pc := 15) X dX1_init_15 rfl ?_
  refine r_putiW (pc := 16) X dX1_init_16 tf_1_17 rfl (Or.inr ⟨rfl, hnm, rfl⟩) ho ⟨rfl, rfl⟩ ?_
  refine r_vret (pc := 19) X dX1_init_19 rfl ?_
  exact ⟨⟨rfl, rfl⟩, rfl⟩
theorem l_comp : ∀ (d : Nat) {h : hp_T} {T : TX} {M0 : Mem} (C : CS h) {w : wc_T} {κ : cx_T} {Φ : Option Value → hp_T → Prop} {rt : Option FieldType} (X : CX w κ (d + 19) 3 cX3_compile 3 rt Φ) {R : CR} (hT : ∀ M1 z, RdC T R M0 M1 → GG w κ 58 [some (.ref 65), some (.int (b2 R.1)), some (.int z)] [] (wi h M1)), ∀ (k j : Nat) (r : CR) (M : Mem), j + k = 10 → RdC T r M0 M → loopF T k r = R → GG w κ 28 [some (.ref 65), some (.int (b2 r.1)), some (.int (nI j))] [] (wi h M) := by
  intro d h T M0 C w κ Φ rt X R hT k
  induction k with
  | zero =>
    intro j r M hj S hR
    subst hR
    refine r_iload_n (pc := 28) X dX3_compile_28 rfl ?_
    refine r_bipush (pc := 29) (v := (nI 10)) X dX3_compile_29 (by decide) ?_
    refine r_icmp_geN (pc := 31) X dX3_compile_31 (tgt := 58) (by decide) (by omega) (by omega) (fun c31 => ?_) (fun c31 => ?_)
    · exact hT M _ S
    · exact absurd (show 10 ≤ j by omega) c31
  | succ k ih =>
    intro j r M hj S hR
    obtain ⟨S, hf, K⟩ := S
    cases e : r.1
    · have hR : r = R := by
        rw [← hR]
        unfold loopF
        rw [if_neg (by rw [e]; decide)]
      subst hR
      refine r_iload_n (pc := 28) X dX3_compile_28 rfl ?_
      refine r_bipush (pc := 29) (v := (nI 10)) X dX3_compile_29 (by decide) ?_
      refine r_icmp_geN (pc := 31) X dX3_compile_31 (tgt := 58) (by decide) (by omega) (by omega) (fun c31 => ?_) (fun c31 => ?_)
      · exact absurd c31 (by omega)
      · refine r_iload_n (pc := 34) X dX3_compile_34 rfl ?_
        refine r_if_eq (pc := 35) X dX3_compile_35 (tgt := 58) (by decide) (fun c35 => ?_) (fun c35 => ?_)
        · rw [← e]
          exact hT M _ ⟨S, hf, K⟩
        · exact absurd rfl c35
    · by_cases ea : aheadN T r.2.1 = 59
      · have et : takeF T 59 r.2.1 r.2.2.1 = (true, r.2.1 + 1, r.2.2.1) := if_pos ea
        have hR : loopF T k (clauseF T (r.2.1 + 1) r.2.2.1 r.2.2.2) = R := by
          rw [← hR]
          conv => rhs; unfold loopF
          rw [if_pos e, if_pos ea]
        refine r_iload_n (pc := 28) X dX3_compile_28 rfl ?_
        refine r_bipush (pc := 29) (v := (nI 10)) X dX3_compile_29 (by decide) ?_
        refine r_icmp_geN (pc := 31) X dX3_compile_31 (tgt := 58) (by decide) (by omega) (by omega) (fun c31 => ?_) (fun c31 => ?_)
        · exact absurd c31 (by omega)
        · refine r_iload_n (pc := 34) X dX3_compile_34 rfl ?_
          refine r_if_eq (pc := 35) X dX3_compile_35 (tgt := 58) (by decide) (fun c35 => ?_) (fun c35 => ?_)
          · exact absurd c35 (by decide)
          · refine r_aload_n (pc := 38) X dX3_compile_38 rfl ?_
            refine r_bipush (pc := 39) (v := (nI 59)) X dX3_compile_39 (by decide) ?_
            refine r_c0_1IW (pc := 41) X rfl dX3_compile_41 tc_3_41 mm_X3_take (kc_65 C) rfl rfl (e_take (d + 18) C S (k := 59) (by decide)) (Nat.le_of_ble_eq_true rfl) (fun r41 M41 q41 => ?_)
            refine r_if_eq (pc := 44) X dX3_compile_44 (tgt := 58) (by decide) (fun c44 => ?_) (fun c44 => ?_)
            · exact absurd c44 (by rw [q41.1, et]; exact b2_n.mpr rfl)
            · rw [et] at q41
              refine r_aload_n (pc := 47) X dX3_compile_47 rfl ?_
              refine r_c0_0IW (pc := 48) X rfl dX3_compile_48 tc_3_37 mm_X3_clause (kc_65 C) rfl rfl (e_clause d C q41.2.1 (q41.2.2.f hf)) (Nat.le_of_ble_eq_true rfl) (fun r48 M48 q48 => ?_)
              obtain ⟨rfl, S2, hf2, K2⟩ := q48
              refine r_istore_n (pc := 51) X dX3_compile_51 (Nat.le_of_ble_eq_true rfl) ?_
              refine r_iinc (pc := 52) X dX3_compile_52 rfl (by first | exact nI_i1 _ | rfl) ?_
              refine r_goto (pc := 55) X dX3_compile_55 (tgt := 28) (by decide) ?_
              exact ih (j + 1) _ _ (by omega) ⟨S2, hf2, (K.tr q41.2.2.k2).tr K2⟩ hR
      · have et : takeF T 59 r.2.1 r.2.2.1 = (false, r.2.1, r.2.2.1) := if_neg ea
        have hR : r = R := by
          rw [← hR]
          conv => rhs; unfold loopF
          rw [if_pos e, if_neg ea]
        subst hR
        refine r_iload_n (pc := 28) X dX3_compile_28 rfl ?_
        refine r_bipush (pc := 29) (v := (nI 10)) X dX3_compile_29 (by decide) ?_
        refine r_icmp_geN (pc := 31) X dX3_compile_31 (tgt := 58) (by decide) (by omega) (by omega) (fun c31 => ?_) (fun c31 => ?_)
        · exact absurd c31 (by omega)
        · refine r_iload_n (pc := 34) X dX3_compile_34 rfl ?_
          refine r_if_eq (pc := 35) X dX3_compile_35 (tgt := 58) (by decide) (fun c35 => ?_) (fun c35 => ?_)
          · exact absurd c35 (by decide)
          · refine r_aload_n (pc := 38) X dX3_compile_38 rfl ?_
            refine r_bipush (pc := 39) (v := (nI 59)) X dX3_compile_39 (by decide) ?_
            refine r_c0_1IW (pc := 41) X rfl dX3_compile_41 tc_3_41 mm_X3_take (kc_65 C) rfl rfl (e_take (d + 18) C S (k := 59) (by decide)) (Nat.le_of_ble_eq_true rfl) (fun r41 M41 q41 => ?_)
            refine r_if_eq (pc := 44) X dX3_compile_44 (tgt := 58) (by decide) (fun c44 => ?_) (fun c44 => ?_)
            · rw [et] at q41
              rw [← e]
              exact hT _ _ ⟨q41.2.1, q41.2.2.f hf, K.tr q41.2.2.k2⟩
            · exact absurd (by rw [q41.1, et]; rfl) c44
set_option maxRecDepth 10000 in
set_option maxHeartbeats 4000000 in
theorem e_compile : ∀ (d : Nat) {h : hp_T} {M : Mem} {T : TX} (C : CS h) (S : TxS T M), Ex (d + 19) nX3_compile [.ref 65] (wi h M) (if standF T = true then 2 else 0) (if standF T = true then 3 + (compF T).2.2.1.length else 0) (evQ T h M) := by
  intro d h M T C S
  refine Ex.of mm_X3_compile (Nat.le_of_ble_eq_true rfl) fun w κ X hk hnm => ?_
  refine r_aload_n (pc := 0) X dX3_compile_0 rfl ?_
  refine r_iconst (pc := 1) (v := (nI 0)) X dX3_compile_1 (by decide) ?_
  refine r_putiW (pc := 2) X dX3_compile_2 tf_3_23 rfl (Or.inl rfl) (kc_65 C) ⟨rfl, rfl⟩ ?_
  refine r_aload_n (pc := 5) X dX3_compile_5 rfl ?_
  refine r_iconst (pc := 6) (v := (nI 0)) X dX3_compile_6 (by decide) ?_
  refine r_putiW (pc := 7) X dX3_compile_7 tf_3_26 rfl (Or.inl rfl) (kc_65 C) ⟨rfl, rfl⟩ ?_
  refine r_aload_n (pc := 10) X dX3_compile_10 rfl ?_
  refine r_bipush (pc := 11) (v := (nI 12)) X dX3_compile_11 (by decide) ?_
  refine r_putiW (pc := 13) X dX3_compile_13 tf_3_31 rfl (Or.inl rfl) (kc_65 C) ⟨rfl, rfl⟩ ?_
  refine r_aload_n (pc := 16) X dX3_compile_16 rfl ?_
  refine r_iconst (pc := 17) (v := (nI 5)) X dX3_compile_17 (by decide) ?_
  refine r_putiW (pc := 18) X dX3_compile_18 tf_3_34 rfl (Or.inl rfl) (kc_65 C) ⟨rfl, rfl⟩ ?_
  refine r_aload_n (pc := 21) X dX3_compile_21 rfl ?_
  refine r_c0_0IW (pc := 22) X rfl dX3_compile_22 tc_3_37 mm_X3_clause (kc_65 C) rfl rfl (e_clause d (fc := (12, 5)) C (RdS.start S (by simp (disch := omega) only [mU_ne]) (by simp only [mU_eq]; rfl) (by simp only [mU_eq]; rfl) (by simp only [mU_eq]; rfl)) ⟨by simp only [mU_eq]; rfl, by simp only [mU_eq]; rfl⟩) (Nat.le_of_ble_eq_true rfl) (fun r22 M22 q22 => ?_)
  obtain ⟨rfl, S2, hf2, K2⟩ := q22
  have K1 : RdK2 M _ := ((((RdK.u (x := nI 0) (Or.inl rfl)).tr (RdK.u (x := nI 0) (Or.inr (Or.inr rfl)))).k2.tr (RdK2.u (x := nI 12) (Or.inl rfl))).tr (RdK2.u (x := nI 5) (Or.inr rfl))).tr K2
  refine r_istore_n (pc := 25) X dX3_compile_25 (Nat.le_of_ble_eq_true rfl) ?_
  refine r_iconst (pc := 26) (v := (nI 1)) X dX3_compile_26 (by decide) ?_
  refine r_istore_n (pc := 27) X dX3_compile_27 (Nat.le_of_ble_eq_true rfl) ?_
  refine l_comp d C X (M0 := M) (R := compF T) (fun M1 z q => ?_) 9 1 _ _ rfl ⟨S2, hf2, K1⟩ rfl
  have n1 := q.1.n100
  have n2 := q.1.ple
  have n3 := q.1.ule
  have k65 := kc_65 C
  have k65a := k65.2.1
  have k65b := k65.2.2
  have k67b := (kc_67 C).2.2
  have hne : 65 ≠ h_n h := by omega
  have hne2 : 65 ≠ h_n h + 1 := by omega
  have hu : (compF T).2.2.1.length ≤ 100 := by omega
  cases e : standF T
  · have s0 := e
    refine r_iload_n (pc := 58) X dX3_compile_58 rfl ?_
    refine r_if_eq (pc := 59) X dX3_compile_59 (tgt := 77) (by decide) (fun c59 => ?_) (fun c59 => ?_)
    · refine r_iconst (pc := 77) (v := (nI 0)) X dX3_compile_77 (by decide) ?_
      refine r_istore_n (pc := 78) X dX3_compile_78 (Nat.le_of_ble_eq_true rfl) ?_
      refine r_aload_n (pc := 79) X dX3_compile_79 rfl ?_
      refine r_iconst (pc := 80) (v := (nI 0)) X dX3_compile_80 (by decide) ?_
      refine r_putiW (pc := 81) X dX3_compile_81 tf_3_19 rfl (Or.inl rfl) (kc_65 C) ⟨rfl, rfl⟩ ?_
      refine r_iload_n (pc := 84) X dX3_compile_84 rfl ?_
      refine r_if_eq (pc := 85) X dX3_compile_85 (tgt := 117) (by decide) (fun c85 => ?_) (fun c85 => ?_)
      · refine r_null (pc := 117) X dX3_compile_117 ?_
        refine r_aret (pc := 118) (r := none) X dX3_compile_118 rfl rfl ?_ (by decide)
        refine ⟨⟨_, fun z => absurd (e.symm.trans z) (by decide), fun _ => ⟨rfl, rfl⟩, by rw [mU_eq]; rfl, by rw [mU_eq]; exact q.1.pl, fun b hb h1 h2 => ?_⟩, by rw [if_neg (by rw [e]; decide), if_neg (by rw [e]; decide)]; rfl⟩
        rw [mU_ne h1]
        exact q.2.2.1 b h1 h2
      · exact absurd rfl c85
    · refine r_aload_n (pc := 62) X dX3_compile_62 rfl ?_
      refine r_getiW (pc := 63) X dX3_compile_63 tf_3_23 rfl (kc_65 C) q.1.pl ?_
      refine r_aload_n (pc := 66) X dX3_compile_66 rfl ?_
      refine r_getiW (pc := 67) X dX3_compile_67 tf_3_19 rfl (kc_65 C) q.1.len ?_
      refine r_icmp_neN (pc := 70) X dX3_compile_70 (tgt := 77) (by decide) (by omega) (by omega) (fun c70 => ?_) (fun c70 => ?_)
      · refine r_iconst (pc := 77) (v := (nI 0)) X dX3_compile_77 (by decide) ?_
        refine r_istore_n (pc := 78) X dX3_compile_78 (Nat.le_of_ble_eq_true rfl) ?_
        refine r_aload_n (pc := 79) X dX3_compile_79 rfl ?_
        refine r_iconst (pc := 80) (v := (nI 0)) X dX3_compile_80 (by decide) ?_
        refine r_putiW (pc := 81) X dX3_compile_81 tf_3_19 rfl (Or.inl rfl) (kc_65 C) ⟨rfl, rfl⟩ ?_
        refine r_iload_n (pc := 84) X dX3_compile_84 rfl ?_
        refine r_if_eq (pc := 85) X dX3_compile_85 (tgt := 117) (by decide) (fun c85 => ?_) (fun c85 => ?_)
        · refine r_null (pc := 117) X dX3_compile_117 ?_
          refine r_aret (pc := 118) (r := none) X dX3_compile_118 rfl rfl ?_ (by decide)
          refine ⟨⟨_, fun z => absurd (e.symm.trans z) (by decide), fun _ => ⟨rfl, rfl⟩, by rw [mU_eq]; rfl, by rw [mU_eq]; exact q.1.pl, fun b hb h1 h2 => ?_⟩, by rw [if_neg (by rw [e]; decide), if_neg (by rw [e]; decide)]; rfl⟩
          rw [mU_ne h1]
          exact q.2.2.1 b h1 h2
        · exact absurd rfl c85
      · exact absurd (e.symm.trans (stand_t (b2_n.mp c59) c70)) (by decide)
  · obtain ⟨s1, s2⟩ := stand_1 e
    rw [if_pos e, if_pos e] at hk
    refine r_iload_n (pc := 58) X dX3_compile_58 rfl ?_
    refine r_if_eq (pc := 59) X dX3_compile_59 (tgt := 77) (by decide) (fun c59 => ?_) (fun c59 => ?_)
    · exact absurd (b2_z.mp c59) (by rw [s1]; decide)
    · refine r_aload_n (pc := 62) X dX3_compile_62 rfl ?_
      refine r_getiW (pc := 63) X dX3_compile_63 tf_3_23 rfl (kc_65 C) q.1.pl ?_
      refine r_aload_n (pc := 66) X dX3_compile_66 rfl ?_
      refine r_getiW (pc := 67) X dX3_compile_67 tf_3_19 rfl (kc_65 C) q.1.len ?_
      refine r_icmp_neN (pc := 70) X dX3_compile_70 (tgt := 77) (by decide) (by omega) (by omega) (fun c70 => ?_) (fun c70 => ?_)
      · exact absurd s2 c70
      · refine r_iconst (pc := 73) (v := (nI 1)) X dX3_compile_73 (by decide) ?_
        refine r_goto (pc := 74) X dX3_compile_74 (tgt := 78) (by decide) ?_
        refine r_istore_n (pc := 78) X dX3_compile_78 (Nat.le_of_ble_eq_true rfl) ?_
        refine r_aload_n (pc := 79) X dX3_compile_79 rfl ?_
        refine r_iconst (pc := 80) (v := (nI 0)) X dX3_compile_80 (by decide) ?_
        refine r_putiW (pc := 81) X dX3_compile_81 tf_3_19 rfl (Or.inl rfl) (kc_65 C) ⟨rfl, rfl⟩ ?_
        refine r_iload_n (pc := 84) X dX3_compile_84 rfl ?_
        refine r_if_eq (pc := 85) X dX3_compile_85 (tgt := 117) (by decide) (fun c85 => ?_) (fun c85 => ?_)
        · exact absurd c85 (by decide)
        · refine r_new (pc := 88) X dX3_compile_88 tn_3_45 (by rw [hk]; exact ⟨Nat.le_add_right _ 1, by show h_s h + 3 ≤ h_s h + (3 + _); omega⟩) (by decide) ?_
          rw [nC_wi]
          show GG w κ _ _ (Value.ref (h_n h) :: _) (wi (nC h 0 1 3) (mU _ (h_n h) (fun _ => 0)))
          have C := C.nC (t := 0) (n := 1) (len := 3)
          refine r_dup (pc := 91) X dX3_compile_91 rfl ?_
          refine r_aload_n (pc := 92) X dX3_compile_92 rfl ?_
          refine r_getr (pc := 93) X dX3_compile_93 tf_3_15 rfl (kc_65 C) (rc_65_4 C) ?_
          refine r_aload_n (pc := 96) X dX3_compile_96 rfl ?_
          refine r_getiW (pc := 97) X dX3_compile_97 tf_3_26 rfl (kc_65 C) (show (mU (mU M1 65 (upd (M1 65) 1 (nI 0))) (h_n h) (fun _ => 0)) 65 5 = nI (compF T).2.2.1.length by rw [mU_ne hne, mU_eq]; exact q.1.us) ?_
          refine r_c1_2M (pc := 100) X rfl dX3_compile_100 tc_3_47 mm_J7_copyOf_59c91 (e_copyOf (d + 16) (h := wi (nC h 0 1 3) _) (kc_67 C) (by omega) hu) (by rw [hk]; exact ⟨Nat.le_refl _, Nat.le_of_eq (Nat.add_assoc _ _ _)⟩) (Nat.le_of_ble_eq_true rfl) (fun v100 g100 q100 u100 => ?_)
          obtain ⟨w_, rfl, rfl, hg⟩ := q100
          rw [nC_wi2]
          have C := C.nC (t := 1) (n := (compF T).2.2.1.length) (len := (compF T).2.2.1.length)
          show GG w κ _ _ (Value.ref (h_n h + 1) :: _) (wi _ (mU _ (h_n h + 1) w_))
          refine r_aload_n (pc := 103) X dX3_compile_103 rfl ?_
          refine r_getiW (pc := 104) X dX3_compile_104 tf_3_31 rfl (kc_65 C) (show (mU (mU (mU M1 65 (upd (M1 65) 1 (nI 0))) (h_n h) (fun _ => 0)) (h_n h + 1) w_) 65 6 = nI (compF T).2.2.2.1 by rw [mU_ne hne2, mU_ne hne, mU_eq]; exact q.2.1.1) ?_
          refine r_aload_n (pc := 107) X dX3_compile_107 rfl ?_
          refine r_getiW (pc := 108) X dX3_compile_108 tf_3_34 rfl (kc_65 C) (show (mU (mU (mU M1 65 (upd (M1 65) 1 (nI 0))) (h_n h) (fun _ => 0)) (h_n h + 1) w_) 65 7 = nI (compF T).2.2.2.2 by rw [mU_ne hne2, mU_ne hne, mU_eq]; exact q.2.1.2) ?_
          refine r_s2_3G (pc := 111) X rfl dX3_compile_111 tc_3_53 mm_X1_init rfl (by omega) (e_evinit (d + 17) _ _ (h := nC (nC h 0 1 3) 1 (compF T).2.2.1.length (compF T).2.2.1.length) (ck_nC (ck_new (by omega)))) (Nat.le_of_ble_eq_true rfl) (fun v111 g111 q111 => ?_)
          obtain ⟨rfl, rfl⟩ := q111
          refine r_goto (pc := 114) X dX3_compile_114 (tgt := 118) (by decide) ?_
          refine r_aret (pc := 118) (r := (some (h_n h))) X dX3_compile_118 rfl rfl ?_ (by intro z; have := Option.some.inj z; omega)
          refine ⟨⟨_, fun _ => ⟨rfl, rfl, ?_, ?_, fun i hi => ?_⟩, fun z => absurd (e.symm.trans z) (by decide), ?_, ?_, fun b hb h1 h2 => ?_⟩, by rw [if_pos e, if_pos e]; exact Prod.ext (by rfl) (Nat.add_assoc _ _ _)⟩
          · rw [mU_eq]
            show mU _ (h_n h) _ (h_n h) 1 = _
            rw [mU_eq]; rfl
          · rw [mU_eq]; rfl
          · rw [mU_ne (by omega), mU_ne (by omega), mU_eq, hg i hi]
            show mU (mU M1 65 _) (h_n h) _ 67 i = _
            rw [mU_ne (by omega), mU_ne (by omega)]
            exact q.1.2.2.2 i hi
          · rw [mU_ne hne, mU_ne hne, mU_ne hne2, mU_ne hne, mU_eq]; rfl
          · rw [mU_ne hne, mU_ne hne, mU_ne hne2, mU_ne hne, mU_eq]; exact q.1.pl
          · rw [mU_ne (by omega), mU_ne (by omega), mU_ne (by omega), mU_ne (by omega), mU_ne h1]
            exact q.2.2.1 b h1 h2
