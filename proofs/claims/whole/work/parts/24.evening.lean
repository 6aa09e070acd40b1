/-! compile -/
def loopF (T : TX) : Nat → CR → CR
  | 0, r => r
  | k + 1, r => if r.1 = true then (if aheadN T r.2.1 = 59 then loopF T k (clauseF T (r.2.1 + 1) r.2.2.1 r.2.2.2) else r) else r
def compF (T : TX) : CR := loopF T 9 (clauseF T 0 [] (12, 5))
def standF (T : TX) : Bool := (compF T).1 && decide ((compF T).2.1 = T.1)
def TxS (T : TX) (M : Mem) : Prop := M 65 1 = nI T.1 ∧ T.1 ≤ 100 ∧ ∀ i, i < T.1 → M 66 i = nI (T.2 i) ∧ T.2 i ≤ 127
section RW24
variable {w : wc_T} {κ : cx_T} {d own nL : Nat} {cc : ByteArray} {rt : Option FieldType} {Φ : Option Value → hp_T → Prop} {pc : Nat} {L : List (Option Value)} {st : List Value} {h : hp_T}
theorem r_c0_0M (X : CX w κ (d + 1) own cc nL rt Φ) {idx n b ci c s : Nat} {Q : Option Value → hp_T → Prop} {x : mt_T} (hln : L.length = nL) (dc : decode cc pc = .ok (.invokevirtual idx, 3)) (f : tc own idx n 0 0) (hm : mt_at n x) {r : vw_C} (hs : ck h b 0 ci) (hr : vwCl[ci]? = some r) (hC : r.1 = x.1.cls) (he : Ex d n [.ref b] h c s Q) (hc : h_n h + c ≤ (k_1 κ).1 ∧ h_s h + s ≤ (k_1 κ).2) (hw : (st.map fun v => v.category).sum ≤ 8) (kk : ∀ (v : Option Value) (h1 : hp_T), Q v h1 → h1.1 = (h_n h + c, h_s h + s) → GG w κ (pc + 3) L (v.toList ++ st) h1) : GG w κ pc L (.ref b :: st) h :=
  fun hg => r_call0 (As := []) X hln dc f hm (obj_recv X hs hr hC) rfl he hc hw kk hg
theorem r_c4_2M (X : CX w κ (d + 1) own cc nL rt Φ) {idx n c s : Nat} {x1 x2 : Value} {Q : Option Value → hp_T → Prop} {x : mt_T} (hln : L.length = nL) (dc : decode cc pc = .ok (.invokestatic idx, 3)) (f : tc own idx n 4 2) (hm : mt_at n x) (he : Ex d n [x1, x2] h c s Q) (hc : h_n h + c ≤ (k_1 κ).1 ∧ h_s h + s ≤ (k_1 κ).2) (hw : (st.map fun v => v.category).sum ≤ 8) (kk : ∀ (v : Option Value) (h1 : hp_T), Q v h1 → h1.1 = (h_n h + c, h_s h + s) → GG w κ (pc + 3) L (v.toList ++ st) h1) : GG w κ pc L (x2 :: x1 :: st) h :=
  fun hg => r_call4 (As := [x1, x2]) X hln dc f hm rfl he hc hw kk hg
theorem r_c1_2M (X : CX w κ (d + 1) own cc nL rt Φ) {idx n c s : Nat} {x1 x2 : Value} {Q : Option Value → hp_T → Prop} {x : mt_T} (hln : L.length = nL) (dc : decode cc pc = .ok (.invokestatic idx, 3)) (f : tc own idx n 1 2) (hm : mt_at n x) (he : Ex d n [x1, x2] h c s Q) (hc : h_n h + c ≤ (k_1 κ).1 ∧ h_s h + s ≤ (k_1 κ).2) (hw : (st.map fun v => v.category).sum ≤ 8) (kk : ∀ (v : Option Value) (h1 : hp_T), Q v h1 → h1.1 = (h_n h + c, h_s h + s) → GG w κ (pc + 3) L (v.toList ++ st) h1) : GG w κ pc L (x2 :: x1 :: st) h :=
  fun hg => r_call1 (As := [x1, x2]) X hln dc f hm rfl he hc hw kk hg
theorem r_s2_3G (X : CX w κ (d + 1) own cc nL rt Φ) {idx n b : Nat} {x1 x2 x3 : Value} {Q : Option Value → hp_T → Prop} {x : mt_T} (hln : L.length = nL) (dc : decode cc pc = .ok (.invokespecial idx, 3)) (f : tc own idx n 2 3) (hm : mt_at n x) (hv : x.2.2.2.1 = none) (hb : 20 ≤ b) (he : Ex d n [.ref b, x1, x2, x3] h 0 0 Q) (hw : (st.map fun v => v.category).sum ≤ 8) (kk : ∀ (v : Option Value) (h1 : hp_T), Q v h1 → GG w κ (pc + 3) L (v.toList ++ st) h1) : GG w κ pc L (x3 :: x2 :: x1 :: .ref b :: st) h :=
  fun hg => r_call2 (As := [x1, x2, x3]) X hln dc f hm hv hb rfl he ⟨by omega, by omega⟩ hw (fun v1 h1 hq _ => kk v1 h1 hq) hg
end RW24
theorem csR_in : ∀ q ∈ csR, ∃ k ∈ csK, k.1 = q.1 := by decide +kernel
theorem CS.nC {h : hp_T} (C : CS h) {t n len : Nat} : CS (_root_.Jvm.Pilot.CLastAtPumpLaw_law_r2513_88f96d.nC h t n len) := by
  refine ⟨fun q hq => ck_nC (C.1 q hq), fun q hq => ?_⟩
  obtain ⟨k, hk, e⟩ := csR_in q hq
  have h1 := (C.1 k hk).2.2
  rw [e] at h1
  show (if q.1 = h_n h then (fun _ => none) else h_r h q.1) q.2.1 = _
  rw [if_neg (Nat.ne_of_lt h1)]
  exact C.2 q hq
theorem RdS.start {T : TX} {M : Mem} (S : TxS T M) {f : Nat → Int32} (h1 : f 1 = M 65 1) (h2 : f 2 = nI 0) (h5 : f 5 = nI 0) : RdS T 0 [] (mU M 65 f) := by
  refine ⟨⟨?_, S.2.1, fun i hi => ?_⟩, ⟨?_, Nat.zero_le _⟩, ⟨?_, Nat.le_refl _⟩, fun i hi => absurd hi (Nat.not_lt_zero _)⟩
  · rw [mU_eq, h1]; exact S.1
  · rw [mU_ne (by omega)]; exact S.2.2 i hi
  · rw [mU_eq]; exact h2
  · rw [mU_eq]; exact h5
set_option maxRecDepth 10000 in
set_option maxHeartbeats 4000000 in
theorem e_evinit : ∀ (d : Nat) (a b : Int32) {h : hp_T} {M : Mem} {o cd : Nat} (ho : ck h o 0 1), Ex (d + 1) nX1_init [.ref o, .ref cd, .int a, .int b] (wi h M) 0 0 (fun v2 h2 => v2 = none ∧ h2 = wi (sR h o (va_up (h_r h o) 0 (some cd))) (mU (mU M o (upd (M o) 1 a)) o (upd (mU M o (upd (M o) 1 a) o) 2 b))) := by
  intro d a b h M o cd ho
  refine Ex.of mm_X1_init (Nat.le_of_ble_eq_true rfl) fun w κ X hk hnm => ?_
  refine r_aload_n (pc := 0) X dX1_init_0 rfl ?_
  refine r_obj (pc := 1) X rfl dX1_init_1 to_1_1 (Nat.le_of_ble_eq_true rfl) ho.2.1 ?_
  refine r_aload_n (pc := 4) X dX1_init_4 rfl ?_
  refine r_aload_n (pc := 5) X dX1_init_5 rfl ?_
  refine r_putrW (pc := 6) (r := (some cd)) X dX1_init_6 tf_1_7 rfl (Or.inr ⟨rfl, hnm, rfl⟩) ho ?_
  refine r_aload_n (pc := 9) X dX1_init_9 rfl ?_
  refine r_iload_n (pc := 10) X dX1_init_10 rfl ?_
  refine r_putiW (pc := 11) X dX1_init_11 tf_1_13 rfl (Or.inr ⟨rfl, hnm, rfl⟩) ho ⟨rfl, rfl⟩ ?_
  refine r_aload_n (pc := 14) X dX1_init_14 rfl ?_
  refine r_iload_n (pc := 15) X dX1_init_15 rfl ?_
  refine r_putiW (pc := 16) X dX1_init_16 tf_1_17 rfl (Or.inr ⟨rfl, hnm, rfl⟩) ho ⟨rfl, rfl⟩ ?_
  refine r_vret (pc := 19) X dX1_init_19 rfl ?_
  exact ⟨⟨rfl, rfl⟩, rfl⟩
theorem l_comp : ∀ (d : Nat) {h : hp_T} {T : TX} {M0 : Mem} (C : CS h) {w : wc_T} {κ : cx_T} {Φ : Option Value → hp_T → Prop} {rt : Option FieldType} (X : CX w κ (d + 19) 3 cX3_compile 3 rt Φ) {R : CR} (hT : ∀ M1 z, RdC T R M0 M1 → GG w κ 58 [some (.ref 65), some (.int (b2 R.1)), some (.int z)] [] (wi h M1)), ∀ (k j : Nat) (r : CR) (M : Mem), j + k = 10 → RdC T r M0 M → loopF T k r = R → GG w κ 28 [some (.ref 65), some (.int (b2 r.1)), some (.int (nI j))] [] (wi h M) := by
  intro d h T M0 C w κ Φ rt X R hT k
  induction k with
  | zero =>
    intro j r M hj S hR
    subst hR
    refine r_iload_n (pc := 28) X dX3_compile_28 rfl ?_
    refine r_bipush (pc := 29) (v := (nI 10)) X dX3_compile_29 (by decide) ?_
    refine r_icmp_geN (pc := 31) X dX3_compile_31 (tgt := 58) (by decide) (by omega) (by omega) (fun c31 => ?_) (fun c31 => ?_)
    · exact hT M _ S
    · exact absurd (show 10 ≤ j by omega) c31
  | succ k ih =>
    intro j r M hj S hR
    obtain ⟨S, hf, K⟩ := S
    cases e : r.1
    · have hR : r = R := by
        rw [← hR]
        unfold loopF
        rw [if_neg (by rw [e]; decide)]
      subst hR
      refine r_iload_n (pc := 28) X dX3_compile_28 rfl ?_
      refine r_bipush (pc := 29) (v := (nI 10)) X dX3_compile_29 (by decide) ?_
      refine r_icmp_geN (pc := 31) X dX3_compile_31 (tgt := 58) (by decide) (by omega) (by omega) (fun c31 => ?_) (fun c31 => ?_)
      · exact absurd c31 (by omega)
      · refine r_iload_n (pc := 34) X dX3_compile_34 rfl ?_
        refine r_if_eq (pc := 35) X dX3_compile_35 (tgt := 58) (by decide) (fun c35 => ?_) (fun c35 => ?_)
        · rw [← e]
          exact hT M _ ⟨S, hf, K⟩
        · exact absurd rfl c35
    · by_cases ea : aheadN T r.2.1 = 59
      · have et : takeF T 59 r.2.1 r.2.2.1 = (true, r.2.1 + 1, r.2.2.1) := if_pos ea
        have hR : loopF T k (clauseF T (r.2.1 + 1) r.2.2.1 r.2.2.2) = R := by
          rw [← hR]
          conv => rhs; unfold loopF
          rw [if_pos e, if_pos ea]
        refine r_iload_n (pc := 28) X dX3_compile_28 rfl ?_
        refine r_bipush (pc := 29) (v := (nI 10)) X dX3_compile_29 (by decide) ?_
        refine r_icmp_geN (pc := 31) X dX3_compile_31 (tgt := 58) (by decide) (by omega) (by omega) (fun c31 => ?_) (fun c31 => ?_)
        · exact absurd c31 (by omega)
        · refine r_iload_n (pc := 34) X dX3_compile_34 rfl ?_
          refine r_if_eq (pc := 35) X dX3_compile_35 (tgt := 58) (by decide) (fun c35 => ?_) (fun c35 => ?_)
          · exact absurd c35 (by decide)
          · refine r_aload_n (pc := 38) X dX3_compile_38 rfl ?_
            refine r_bipush (pc := 39) (v := (nI 59)) X dX3_compile_39 (by decide) ?_
            refine r_c0_1IW (pc := 41) X rfl dX3_compile_41 tc_3_41 mm_X3_take (kc_65 C) rfl rfl (e_take (d + 18) C S (k := 59) (by decide)) (Nat.le_of_ble_eq_true rfl) (fun r41 M41 q41 => ?_)
            refine r_if_eq (pc := 44) X dX3_compile_44 (tgt := 58) (by decide) (fun c44 => ?_) (fun c44 => ?_)
            · exact absurd c44 (by rw [q41.1, et]; exact b2_n.mpr rfl)
            · rw [et] at q41
              refine r_aload_n (pc := 47) X dX3_compile_47 rfl ?_
              refine r_c0_0IW (pc := 48) X rfl dX3_compile_48 tc_3_37 mm_X3_clause (kc_65 C) rfl rfl (e_clause d C q41.2.1 (q41.2.2.f hf)) (Nat.le_of_ble_eq_true rfl) (fun r48 M48 q48 => ?_)
              obtain ⟨rfl, S2, hf2, K2⟩ := q48
              refine r_istore_n (pc := 51) X dX3_compile_51 (Nat.le_of_ble_eq_true rfl) ?_
              refine r_iinc (pc := 52) X dX3_compile_52 rfl (by first | exact nI_i1 _ | rfl) ?_
              refine r_goto (pc := 55) X dX3_compile_55 (tgt := 28) (by decide) ?_
              exact ih (j + 1) _ _ (by omega) ⟨S2, hf2, (K.tr q41.2.2.k2).tr K2⟩ hR
      · have et : takeF T 59 r.2.1 r.2.2.1 = (false, r.2.1, r.2.2.1) := if_neg ea
        have hR : r = R := by
          rw [← hR]
          conv => rhs; unfold loopF
          rw [if_pos e, if_neg ea]
        subst hR
        refine r_iload_n (pc := 28) X dX3_compile_28 rfl ?_
        refine r_bipush (pc := 29) (v := (nI 10)) X dX3_compile_29 (by decide) ?_
        refine r_icmp_geN (pc := 31) X dX3_compile_31 (tgt := 58) (by decide) (by omega) (by omega) (fun c31 => ?_) (fun c31 => ?_)
        · exact absurd c31 (by omega)
        · refine r_iload_n (pc := 34) X dX3_compile_34 rfl ?_
          refine r_if_eq (pc := 35) X dX3_compile_35 (tgt := 58) (by decide) (fun c35 => ?_) (fun c35 => ?_)
          · exact absurd c35 (by decide)
          · refine r_aload_n (pc := 38) X dX3_compile_38 rfl ?_
            refine r_bipush (pc := 39) (v := (nI 59)) X dX3_compile_39 (by decide) ?_
            refine r_c0_1IW (pc := 41) X rfl dX3_compile_41 tc_3_41 mm_X3_take (kc_65 C) rfl rfl (e_take (d + 18) C S (k := 59) (by decide)) (Nat.le_of_ble_eq_true rfl) (fun r41 M41 q41 => ?_)
            refine r_if_eq (pc := 44) X dX3_compile_44 (tgt := 58) (by decide) (fun c44 => ?_) (fun c44 => ?_)
            · rw [et] at q41
              rw [← e]
              exact hT _ _ ⟨q41.2.1, q41.2.2.f hf, K.tr q41.2.2.k2⟩
            · exact absurd (by rw [q41.1, et]; rfl) c44
