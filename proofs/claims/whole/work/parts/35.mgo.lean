/-! the reference's steps; what it puts aside and back -/
def cgF (V : VT) : Bool := !endF V && !decide (vP V < 2)
theorem en_lt {V : VT} {B : Nat} (hW : WF B V) : enF V < 0 ↔ endF V = false := by
  unfold enF endF
  rcases hW.2.2.2.2.2.1 with e | ⟨q, hq, e⟩
  · rw [e, if_pos rfl]
    decide
  · have h6 := hW.2.1
    rw [e, if_neg (nI_ne5 (by omega)), decide_eq_true (nI_ne5 (show q < 1000 by omega))]
    exact ⟨fun z => absurd z (nI_pos (by omega)), fun z => by cases z⟩
theorem held_of {x : Int32} : heldF x (nI 999) = mx (nI 0) (mn (nI 999) x) := by
  unfold heldF mx mn
  by_cases c : x < 0
  · have c2 : x < nI 999 := Int32.lt_trans c (by decide)
    rw [if_pos c, if_pos c2, if_neg (show ¬ nI 0 < x from fun z => Int32.lt_irrefl (Int32.lt_trans c z))]
  · rw [if_neg c]
    by_cases c2 : nI 999 < x
    · rw [if_pos c2, if_neg (fun z => Int32.lt_irrefl (Int32.lt_trans c2 z)), if_pos (show nI 0 < nI 999 by decide)]
    · rw [if_neg c2]
      have e : (if x < nI 999 then x else nI 999) = x := by
        by_cases c3 : x < nI 999
        · rw [if_pos c3]
        · rw [if_neg c3]
          exact Int32.le_antisymm (Int32.not_lt.mp c3) (Int32.not_lt.mp c2)
      rw [e]
      by_cases c4 : nI 0 < x
      · rw [if_pos c4]
      · rw [if_neg c4]
        exact Int32.le_antisymm (Int32.not_lt.mp c4) (Int32.not_lt.mp c)
theorem held_n {a K : Nat} (h : a ≤ K) (hK : K < 2 ^ 31) : heldF (nI a) (nI K) = nI a := by
  unfold heldF
  rw [if_neg (nI_pos (by omega)), if_neg (nI_nlt h hK)]
theorem held_mn {a : Nat} (h : a < 2 ^ 31) : heldF (nI a) (nI 999) = mn (nI 999) (nI a) := by
  unfold heldF mn
  rw [if_neg (nI_pos h)]
  by_cases c : a < 999
  · rw [if_neg (nI_nlt (by omega) (by omega)), if_pos (nI_lt c (by omega))]
  · rw [if_neg (show ¬ nI a < nI 999 from nI_nlt (by omega) (by omega))]
    by_cases z : 999 < a
    · rw [if_pos (nI_lt z h)]
    · rw [if_neg (nI_nlt (by omega) (by omega)), show a = 999 by omega]
section S35
variable {V : VT} {M : Mem} {B : Nat}
theorem MSt.u8 (S : MSt V M) {x : Int32} : MSt (vU V 0 8 x) (mU M 80 (upd (M 80) 3 x)) := by
  refine ⟨?_, ?_, ?_, ?_, ?_, fun f h1 h2 => ?_⟩
  · rw [mU_eq, vU_ne (by omega)]; exact S.1
  · rw [mU_eq, vU_ne (by omega)]; exact S.2.1
  · rw [mU_eq]; unfold bkF; rw [vU_ne (by omega), vU_ne (by omega)]; exact S.2.2.1
  · rw [mU_eq, vU_eq]; exact pk_us
  · rw [mU_eq]; unfold enF; rw [vU_ne (by omega)]; exact S.2.2.2.2.1
  · rw [mU_ne (by omega), S.2.2.2.2.2 f h1 h2]; funext j; rw [vU_ne (by omega)]
theorem MSt.u9 (S : MSt V M) {x : Int32} : MSt (vU V 0 9 x) (mU M 80 (upd (M 80) 1 x)) := by
  refine ⟨?_, ?_, ?_, ?_, ?_, fun f h1 h2 => ?_⟩
  · rw [mU_eq, vU_ne (by omega)]; exact S.1
  · rw [mU_eq, vU_eq]; exact pk_us
  · rw [mU_eq]; unfold bkF; rw [vU_ne (by omega), vU_ne (by omega)]; exact S.2.2.1
  · rw [mU_eq, vU_ne (by omega)]; exact S.2.2.2.1
  · rw [mU_eq]; unfold enF; rw [vU_ne (by omega)]; exact S.2.2.2.2.1
  · rw [mU_ne (by omega), S.2.2.2.2.2 f h1 h2]; funext j; rw [vU_ne (by omega)]
theorem MSt.u7 (S : MSt V M) {x : Int32} (h0 : ¬ V 0 6 = 0) : MSt (vU V 0 7 x) (mU M 80 (upd (M 80) 2 x)) := by
  refine ⟨?_, ?_, ?_, ?_, ?_, fun f h1 h2 => ?_⟩
  · rw [mU_eq, vU_ne (by omega)]; exact S.1
  · rw [mU_eq, vU_ne (by omega)]; exact S.2.1
  · rw [mU_eq]; unfold bkF; rw [vU_ne (by omega), vU_eq, if_neg h0]; exact pk_us
  · rw [mU_eq, vU_ne (by omega)]; exact S.2.2.2.1
  · rw [mU_eq]; unfold enF; rw [vU_ne (by omega)]; exact S.2.2.2.2.1
  · rw [mU_ne (by omega), S.2.2.2.2.2 f h1 h2]; funext j; rw [vU_ne (by omega)]
theorem MSt.u10 (S : MSt V M) {x y : Int32} (hx : (x = -5 ∧ y = -1) ∨ (¬ x = -5 ∧ y = x)) : MSt (vU V 0 10 x) (mU M 80 (upd (M 80) 4 y)) := by
  refine ⟨?_, ?_, ?_, ?_, ?_, fun f h1 h2 => ?_⟩
  · rw [mU_eq, vU_ne (by omega)]; exact S.1
  · rw [mU_eq, vU_ne (by omega)]; exact S.2.1
  · rw [mU_eq]; unfold bkF; rw [vU_ne (by omega), vU_ne (by omega)]; exact S.2.2.1
  · rw [mU_eq, vU_ne (by omega)]; exact S.2.2.2.1
  · rw [mU_eq]
    unfold enF
    rw [vU_eq]
    rcases hx with ⟨h1, h2⟩ | ⟨h1, h2⟩
    · rw [if_pos h1, h2]; exact pk_us
    · rw [if_neg h1, h2]; exact pk_us
  · rw [mU_ne (by omega), S.2.2.2.2.2 f h1 h2]; funext j; rw [vU_ne (by omega)]
theorem MSt.uf (S : MSt V M) {f k : Nat} {x : Int32} (hf : 1 ≤ f ∧ f ≤ 6) : MSt (vU V f k x) (mU M (80 + f) (upd (M (80 + f)) k x)) := by
  refine ⟨?_, ?_, ?_, ?_, ?_, fun g h1 h2 => ?_⟩
  · rw [mU_ne (by omega), vU_ne (by omega)]; exact S.1
  · rw [mU_ne (by omega), vU_ne (by omega)]; exact S.2.1
  · rw [mU_ne (by omega)]; unfold bkF; rw [vU_ne (by omega), vU_ne (by omega)]; exact S.2.2.1
  · rw [mU_ne (by omega), vU_ne (by omega)]; exact S.2.2.2.1
  · rw [mU_ne (by omega)]; unfold enF; rw [vU_ne (by omega)]; exact S.2.2.2.2.1
  · by_cases e : g = f
    · subst e
      rw [mU_eq, S.2.2.2.2.2 g h1 h2]
      funext j
      by_cases c : j = k
      · subst c; rw [vU_eq]; exact pk_us
      · rw [vU_ne (by omega)]; exact pk_un c
    · rw [mU_ne (by omega), S.2.2.2.2.2 g h1 h2]; funext j; rw [vU_ne (by omega)]
theorem MSt.bk (S : MSt V M) (hW : WF B V) (h2 : 2 ≤ vP V) : M 80 2 = nI (vW V) := by
  have h6 := hW.2.1
  rw [S.2.2.1]
  unfold bkF
  rw [if_neg (by rw [hW.1]; exact nI_ne0 (by omega) (by omega))]
  exact hW.2.2.1.1
end S35
theorem cg_t {V : VT} (h : cgF V = true) : endF V = false ∧ 2 ≤ vP V := by
  unfold cgF at h
  rw [Bool.and_eq_true] at h
  obtain ⟨h1, h2⟩ := h
  simp only [Bool.not_eq_true', decide_eq_false_iff_not] at h1 h2
  exact ⟨h1, by omega⟩
theorem cg_stuck {E : EV} {V : VT} (h : cgF V = false) : (moveF E V) = (-3, V) := by
  unfold moveF
  rw [if_pos]
  unfold cgF at h
  cases e : endF V with
  | true => exact Or.inl rfl
  | false =>
    rw [e] at h
    simp at h
    exact Or.inr h
theorem cg_go {E : EV} {V : VT} (h : cgF V = false) : ∀ n, goF E n V = V := by
  intro n
  induction n with
  | zero => rfl
  | succ n ih =>
    show goF E n (moveF E V).2 = V
    rw [cg_stuck h]
    exact ih
set_option maxRecDepth 10000 in
set_option maxHeartbeats 4000000 in
theorem m_canGo : ∀ (d : Nat) {V : VT} {h : hp_T} {M : Mem} {B : Nat} (C : CS h) (S : MSt V M) (hW : WF B V), Ep d nX8_canGo [.ref 80] (wi h M) (.int (b2 (cgF V))) := by
  intro d V h M B C S hW
  have h6 := hW.2.1
  refine Ex.of mm_X8_canGo (Nat.le_of_ble_eq_true rfl) fun w κ X hk hnm => ?_
  refine r_aload_n (pc := 0) X dX8_canGo_0 rfl ?_
  refine r_getiW (pc := 1) X dX8_canGo_1 tf_8_22 rfl (kc_80 C) S.2.2.2.2.1 ?_
  refine r_if_ge (pc := 4) X dX8_canGo_4 (tgt := 19) (by decide) (fun c4 => ?_) (fun c4 => ?_)
  · refine r_iconst (pc := 19) (v := (nI 0)) X dX8_canGo_19 (by decide) ?_
    refine r_iret (pc := 20) X dX8_canGo_20 rfl rfl ?_
    exact ⟨⟨by rw [show cgF V = false from by unfold cgF; rw [show endF V = true from by cases e : endF V with | true => rfl | false => exact absurd ((en_lt hW).mpr e) (Int32.not_lt.mpr c4)]; rfl]; rfl, rfl⟩, rfl⟩
  · refine r_aload_n (pc := 7) X dX8_canGo_7 rfl ?_
    refine r_getiW (pc := 8) X dX8_canGo_8 tf_8_7 rfl (kc_80 C) (S.pp hW) ?_
    refine r_iconst (pc := 11) (v := (nI 1)) X dX8_canGo_11 (by decide) ?_
    refine r_icmp_leN (pc := 12) X dX8_canGo_12 (tgt := 19) (by decide) (by omega) (by omega) (fun c12 => ?_) (fun c12 => ?_)
    · refine r_iconst (pc := 19) (v := (nI 0)) X dX8_canGo_19 (by decide) ?_
      refine r_iret (pc := 20) X dX8_canGo_20 rfl rfl ?_
      exact ⟨⟨by rw [show cgF V = false from by unfold cgF; rw [decide_eq_true (show vP V < 2 by omega), Bool.not_true, Bool.and_false]]; rfl, rfl⟩, rfl⟩
    · refine r_iconst (pc := 15) (v := (nI 1)) X dX8_canGo_15 (by decide) ?_
      refine r_goto (pc := 16) X dX8_canGo_16 (tgt := 20) (by decide) ?_
      refine r_iret (pc := 20) X dX8_canGo_20 rfl rfl ?_
      exact ⟨⟨by rw [show cgF V = true from by unfold cgF; rw [(en_lt hW).mp (Int32.not_le.mp c4), decide_eq_false (show ¬ vP V < 2 by omega)]; rfl]; rfl, rfl⟩, rfl⟩
set_option maxRecDepth 10000 in
set_option maxHeartbeats 4000000 in
theorem m_gives : ∀ (d : Nat) {V : VT} {h : hp_T} {M : Mem} {B : Nat} (C : CS h) (S : MSt V M) (hW : WF B V) {p : Nat} (hp : p < vP V), Ev d nX8_gives [.ref 80, .int (nI p)] (wi h M) (fun M1 => MSt (handF V (nI p)) M1 ∧ FS M M1) := by
  intro d V h M B C S hW p hp
  have h6 := hW.2.1
  have S1 := S.u7 (x := nI p) (by rw [hW.1]; exact nI_ne0 (by omega) (by omega))
  have S2 := S1.u10 (x := -5) (y := -1) (Or.inl ⟨rfl, rfl⟩)
  refine Ex.of mm_X8_gives (Nat.le_of_ble_eq_true rfl) fun w κ X hk hnm => ?_
  refine r_aload_n (pc := 0) X dX8_gives_0 rfl ?_
  refine r_iload_n (pc := 1) X dX8_gives_1 rfl ?_
  refine r_putiW (pc := 2) X dX8_gives_2 tf_8_16 rfl (Or.inl rfl) (kc_80 C) ⟨rfl, rfl⟩ ?_
  refine r_aload_n (pc := 5) X dX8_gives_5 rfl ?_
  refine r_iconst (pc := 6) (v := (-1)) X dX8_gives_6 (by decide) ?_
  refine r_putiW (pc := 7) X dX8_gives_7 tf_8_22 rfl (Or.inl rfl) (kc_80 C) ⟨rfl, rfl⟩ ?_
  refine r_vret (pc := 10) X dX8_gives_10 rfl ?_
  exact ⟨⟨_, rfl, rfl, S2, (FS.u0 (by omega)).tr (FS.u0 (by omega))⟩, rfl⟩
set_option maxRecDepth 10000 in
set_option maxHeartbeats 4000000 in
theorem m_goStep : ∀ (d : Nat) {E : EV} {V : VT} {h : hp_T} {M : Mem} {B : Nat} (C : CS h) (S : MSt V M) (hE : MEv E M) (hW : WF B V) (hcg : cgF V = true) {K : Nat} (hK : M 80 29 = nI K) (hB : B + 1 ≤ K) (hK2 : K < 2 ^ 31), Ei (d + 5) nX8_goStep [.ref 80] (wi h M) (fun r M1 => r = (moveF E V).1 ∧ MSt (moveF E V).2 M1 ∧ FS M M1) := by
  intro d E V h M B C S hE hW hcg K hK hB hK2
  have h6 := hW.2.1
  obtain ⟨c1, c2⟩ := cg_t hcg
  obtain ⟨q, hq, -, ht⟩ := target_some (E := E) (p := vW V) c2
  have hp : vW V < vP V := by have := hW.2.2.1.2; omega
  have hp6 : vW V < 6 := by omega
  have hq6 : q < 6 := by omega
  have bk := S.bk hW c2
  have ne0 : ¬ V 0 6 = 0 := by rw [hW.1]; exact nI_ne0 (by omega) (by omega)
  have emv : moveF E V = ((carryF E V (vW V) q).1, vU (carryF E V (vW V) q).2 0 9 ((carryF E V (vW V) q).2 0 9 + nI 1)) := by
    unfold moveF
    rw [if_neg (fun z => z.elim (by rw [c1]; decide) (by omega)), ht]
    rfl
  obtain ⟨y, hy, hl, ey⟩ := hE.cost
  obtain ⟨-, -, -, ⟨n4, hn4, e4⟩, ⟨n5, hn5, e5⟩⟩ := hW.2.2.2.2.2.2.1 (vW V) hp6
  obtain ⟨n8, hn8, e8⟩ := hW.2.2.2.1
  rw [emv]
  refine Ex.of mm_X8_goStep (Nat.le_of_ble_eq_true rfl) fun w κ X hk hnm => ?_
  refine r_aload_n (pc := 0) X dX8_goStep_0 rfl ?_
  refine r_getiW (pc := 1) X dX8_goStep_1 tf_8_16 rfl (kc_80 C) bk ?_
  refine r_istore_n (pc := 4) X dX8_goStep_4 (Nat.le_of_ble_eq_true rfl) ?_
  refine r_aload_n (pc := 5) X dX8_goStep_5 rfl ?_
  refine r_iload_n (pc := 6) X dX8_goStep_6 rfl ?_
  refine r_c0_1P (pc := 7) X rfl dX8_goStep_7 tc_8_337 mm_X8_toWhom (kc_80 C) rfl rfl (m_toWhom d C S hE hW hp6) (Nat.le_of_ble_eq_true rfl) ?_
  rw [ht]
  show GG w κ _ _ (.int (nI q) :: _) _
  refine r_istore_n (pc := 10) X dX8_goStep_10 (Nat.le_of_ble_eq_true rfl) ?_
  refine r_iconst (pc := 11) (v := (nI 2)) X dX8_goStep_11 (by decide) ?_
  refine r_istore_n (pc := 12) X dX8_goStep_12 (Nat.le_of_ble_eq_true rfl) ?_
  refine r_aload_n (pc := 13) X dX8_goStep_13 rfl ?_
  refine r_iload_n (pc := 14) X dX8_goStep_14 rfl ?_
  refine r_iload_n (pc := 15) X dX8_goStep_15 rfl ?_
  refine r_c0_2P (pc := 16) X rfl dX8_goStep_16 tc_8_322 mm_X8_way (kc_80 C) rfl rfl (m_way (d + 4) C S hW hp6 hq6) (Nat.le_of_ble_eq_true rfl) ?_
  refine r_aload_n (pc := 19) X dX8_goStep_19 rfl ?_
  refine r_iload_n (pc := 20) X dX8_goStep_20 rfl ?_
  refine r_c0_1P (pc := 21) X rfl dX8_goStep_21 tc_8_325 mm_X8_reach (kc_80 C) rfl rfl (m_reach (d + 2) C S hE hW hp6) (Nat.le_of_ble_eq_true rfl) ?_
  refine r_icmp_gt (pc := 24) X dX8_goStep_24 (tgt := 58) (by decide) (fun c24 => ?_) (fun c24 => ?_)
  · refine r_aload_n (pc := 58) X dX8_goStep_58 rfl ?_
    refine r_getr (pc := 59) X dX8_goStep_59 tf_8_35 rfl (kc_80 C) (rc_80_8 C) ?_
    refine r_iload_n (pc := 62) X dX8_goStep_62 rfl ?_
    refine r_ialdW (pc := 63) X dX8_goStep_63 (kc_84 C) rfl hp6 (by omega) (S.a4 _) ?_
    refine r_if_le (pc := 64) X dX8_goStep_64 (tgt := 126) (by decide) (fun c64 => ?_) (fun c64 => ?_)
    · refine r_aload_n (pc := 126) X dX8_goStep_126 rfl ?_
      refine r_iload_n (pc := 127) X dX8_goStep_127 rfl ?_
      refine r_putiW (pc := 128) X dX8_goStep_128 tf_8_22 rfl (Or.inl rfl) (kc_80 C) ⟨rfl, rfl⟩ ?_
      have ec : carryF E V (vW V) q = (nI 2, vU V 0 10 (nI (vW V))) := by
        unfold carryF
        rw [if_pos c24, if_pos c64]
      have S9 := S.u10 (x := nI (vW V)) (y := nI (vW V)) (Or.inr ⟨nI_ne5 (by omega), rfl⟩)
      have F9 := (FS.u0 (M := M) (j := 4) (x := nI (vW V)) (by omega))
      have e133 := S9.2.1
      refine r_aload_n (pc := 131) X dX8_goStep_131 rfl ?_
      refine r_dup (pc := 132) X dX8_goStep_132 rfl ?_
      refine r_getiW (pc := 133) X dX8_goStep_133 tf_8_13 rfl (kc_80 C) e133 ?_
      refine r_iconst (pc := 136) (v := (nI 1)) X dX8_goStep_136 (by decide) ?_
      refine r_iadd (pc := 137) X dX8_goStep_137 ?_
      refine r_putiW (pc := 138) X dX8_goStep_138 tf_8_13 rfl (Or.inl rfl) (kc_80 C) ⟨rfl, rfl⟩ ?_
      refine r_iload_n (pc := 141) X dX8_goStep_141 rfl ?_
      refine r_iret (pc := 142) X dX8_goStep_142 rfl rfl ?_
      exact ⟨⟨_, _, rfl, rfl, by rw [ec], by rw [ec]; exact S9.u9, F9.tr (FS.u0 (by omega))⟩, rfl⟩
    · refine r_aload_n (pc := 67) X dX8_goStep_67 rfl ?_
      refine r_getr (pc := 68) X dX8_goStep_68 tf_8_35 rfl (kc_80 C) (rc_80_8 C) ?_
      refine r_iload_n (pc := 71) X dX8_goStep_71 rfl ?_
      refine r_dup2 (pc := 72) X dX8_goStep_72 rfl rfl ?_
      refine r_ialdW (pc := 73) X dX8_goStep_73 (kc_84 C) rfl hp6 (by omega) (S.a4 _) ?_
      refine r_iconst (pc := 74) (v := (nI 1)) X dX8_goStep_74 (by decide) ?_
      refine r_isub (pc := 75) X dX8_goStep_75 ?_
      refine r_iastW (pc := 76) X dX8_goStep_76 (kc_84 C) rfl hp6 (by omega) ?_
      refine r_aload_n (pc := 77) X dX8_goStep_77 rfl ?_
      refine r_getr (pc := 78) X dX8_goStep_78 tf_8_38 rfl (kc_80 C) (rc_80_9 C) ?_
      refine r_iload_n (pc := 81) X dX8_goStep_81 rfl ?_
      refine r_aload_n (pc := 82) X dX8_goStep_82 rfl ?_
      refine r_aload_n (pc := 83) X dX8_goStep_83 rfl ?_
      refine r_getr (pc := 84) X dX8_goStep_84 tf_8_38 rfl (kc_80 C) (rc_80_9 C) ?_
      refine r_iload_n (pc := 87) X dX8_goStep_87 rfl ?_
      refine r_ialdW (pc := 88) X dX8_goStep_88 (kc_85 C) rfl hp6 (by omega) ((show mU M 84 _ 85 (vW V) = _ from S.a5 _)) ?_
      refine r_iconst (pc := 89) (v := (nI 1)) X dX8_goStep_89 (by decide) ?_
      refine r_iadd (pc := 90) X dX8_goStep_90 ?_
      refine r_top (show V 5 (vW V) + nI 1 = nI (n5 + 1) by rw [e5, nI_add]) ?_
      refine r_aload_n (pc := 91) X dX8_goStep_91 rfl ?_
      refine r_getiW (pc := 92) X dX8_goStep_92 tf_8_99 rfl (kc_80 C) (show M 80 29 = _ from hK) ?_
      refine r_c0_2P (pc := 95) X rfl dX8_goStep_95 tc_8_343 mm_X8_held (kc_80 C) rfl rfl (m_held (d + 4) _ (nI K)) (Nat.le_of_ble_eq_true rfl) ?_
      refine r_top (held_n (by omega) hK2) ?_
      refine r_iastW (pc := 98) X dX8_goStep_98 (kc_85 C) rfl hp6 (by omega) ?_
      have f9 : FS M (mU (mU M 84 (upd (M 84) (vW V) (V 4 (vW V) - nI 1))) 85 (upd (mU M 84 (upd (M 84) (vW V) (V 4 (vW V) - nI 1)) 85) (vW V) (nI (n5 + 1)))) := (FS.uf (by omega)).tr (FS.uf (by omega))
      have S76 : MSt (vU V 4 (vW V) (V 4 (vW V) - nI 1)) (mU M 84 (upd (M 84) (vW V) (V 4 (vW V) - nI 1))) := S.uf (f := 4) (by omega)
      have S98 := S76.uf (f := 5) (k := vW V) (x := nI (n5 + 1)) (by omega)
      refine r_aload_n (pc := 99) X dX8_goStep_99 rfl ?_
      refine r_aload_n (pc := 100) X dX8_goStep_100 rfl ?_
      refine r_aload_n (pc := 101) X dX8_goStep_101 rfl ?_
      refine r_getiW (pc := 102) X dX8_goStep_102 tf_8_19 rfl (kc_80 C) (show M 80 3 = _ from S.2.2.2.1) ?_
      refine r_aload_n (pc := 105) X dX8_goStep_105 rfl ?_
      refine r_iconst (pc := 106) (v := (nI 3)) X dX8_goStep_106 (by decide) ?_
      refine r_iconst (pc := 107) (v := (nI 5)) X dX8_goStep_107 (by decide) ?_
      refine r_c0_2P (pc := 108) X rfl dX8_goStep_108 tc_8_316 mm_X8_lastOf (kc_80 C) rfl rfl (m_lastOf (d + 3) C (hE.fs f9) (by omega) hl) (Nat.le_of_ble_eq_true rfl) ?_
      refine r_iadd (pc := 111) X dX8_goStep_111 ?_
      refine r_sipush (pc := 112) (v := (nI 999)) X dX8_goStep_112 (by decide) ?_
      refine r_c0_2P (pc := 115) X rfl dX8_goStep_115 tc_8_343 mm_X8_held (kc_80 C) rfl rfl (m_held (d + 4) _ (nI 999)) (Nat.le_of_ble_eq_true rfl) ?_
      refine r_top (show heldF (V 0 8 + nI y) (nI 999) = mn (nI 999) (V 0 8 + E.2.1) by rw [e8, ey, nI_add]; exact held_mn (by omega)) ?_
      refine r_putiW (pc := 118) X dX8_goStep_118 tf_8_19 rfl (Or.inl rfl) (kc_80 C) ⟨rfl, rfl⟩ ?_
      refine r_iconst (pc := 121) (v := (nI 1)) X dX8_goStep_121 (by decide) ?_
      refine r_istore_n (pc := 122) X dX8_goStep_122 (Nat.le_of_ble_eq_true rfl) ?_
      refine r_goto (pc := 123) X dX8_goStep_123 (tgt := 131) (by decide) ?_
      have ec : carryF E V (vW V) q = (nI 1, vU (vU (vU V 4 (vW V) (V 4 (vW V) - nI 1)) 5 (vW V) (V 5 (vW V) + nI 1)) 0 8 (mn (nI 999) (V 0 8 + E.2.1))) := by
        unfold carryF
        rw [if_pos c24, if_neg (Int32.not_le.mpr (Int32.not_le.mp c64))]
      have S9 := (show MSt (vU (vU (vU V 4 (vW V) (V 4 (vW V) - nI 1)) 5 (vW V) (V 5 (vW V) + nI 1)) 0 8 (mn (nI 999) (V 0 8 + E.2.1))) _ from by rw [show V 5 (vW V) + nI 1 = nI (n5 + 1) by rw [e5, nI_add]]; exact S98.u8)
      have F9 := f9.tr (FS.u0 (j := 3) (x := mn (nI 999) (V 0 8 + E.2.1)) (by omega))
      have e133 := S9.2.1
      refine r_aload_n (pc := 131) X dX8_goStep_131 rfl ?_
      refine r_dup (pc := 132) X dX8_goStep_132 rfl ?_
      refine r_getiW (pc := 133) X dX8_goStep_133 tf_8_13 rfl (kc_80 C) e133 ?_
      refine r_iconst (pc := 136) (v := (nI 1)) X dX8_goStep_136 (by decide) ?_
      refine r_iadd (pc := 137) X dX8_goStep_137 ?_
      refine r_putiW (pc := 138) X dX8_goStep_138 tf_8_13 rfl (Or.inl rfl) (kc_80 C) ⟨rfl, rfl⟩ ?_
      refine r_iload_n (pc := 141) X dX8_goStep_141 rfl ?_
      refine r_iret (pc := 142) X dX8_goStep_142 rfl rfl ?_
      exact ⟨⟨_, _, rfl, rfl, by rw [ec], by rw [ec]; exact S9.u9, F9.tr (FS.u0 (by omega))⟩, rfl⟩
  · refine r_aload_n (pc := 27) X dX8_goStep_27 rfl ?_
    refine r_aload_n (pc := 28) X dX8_goStep_28 rfl ?_
    refine r_aload_n (pc := 29) X dX8_goStep_29 rfl ?_
    refine r_getiW (pc := 30) X dX8_goStep_30 tf_8_19 rfl (kc_80 C) S.2.2.2.1 ?_
    refine r_aload_n (pc := 33) X dX8_goStep_33 rfl ?_
    refine r_iload_n (pc := 34) X dX8_goStep_34 rfl ?_
    refine r_c0_1IW (pc := 35) X rfl dX8_goStep_35 tc_8_340 mm_X8_rain (kc_80 C) rfl rfl (m_rain (d + 2) C S hE hp6) (Nat.le_of_ble_eq_true rfl) (fun r35 M35 q35 => ?_)
    obtain ⟨rfl, k35⟩ := q35
    have S35 := S.o96 k35
    refine r_iadd (pc := 38) X dX8_goStep_38 ?_
    refine r_sipush (pc := 39) (v := (nI 999)) X dX8_goStep_39 (by decide) ?_
    refine r_c0_2P (pc := 42) X rfl dX8_goStep_42 tc_8_343 mm_X8_held (kc_80 C) rfl rfl (m_held (d + 4) _ (nI 999)) (Nat.le_of_ble_eq_true rfl) ?_
    refine r_top held_of ?_
    refine r_putiW (pc := 45) X dX8_goStep_45 tf_8_19 rfl (Or.inl rfl) (kc_80 C) ⟨rfl, rfl⟩ ?_
    refine r_aload_n (pc := 48) X dX8_goStep_48 rfl ?_
    refine r_iload_n (pc := 49) X dX8_goStep_49 rfl ?_
    refine r_putiW (pc := 50) X dX8_goStep_50 tf_8_16 rfl (Or.inl rfl) (kc_80 C) ⟨rfl, rfl⟩ ?_
    refine r_iconst (pc := 53) (v := (nI 0)) X dX8_goStep_53 (by decide) ?_
    refine r_istore_n (pc := 54) X dX8_goStep_54 (Nat.le_of_ble_eq_true rfl) ?_
    refine r_goto (pc := 55) X dX8_goStep_55 (tgt := 131) (by decide) ?_
    have ec : carryF E V (vW V) q = (nI 0, vU (vU V 0 8 (mx (nI 0) (mn (nI 999) (V 0 8 + rainF E V (vW V))))) 0 7 (nI q)) := by
      unfold carryF
      rw [if_neg (fun z => c24 z)]
    have S9 := (S35.u8 (x := mx (nI 0) (mn (nI 999) (V 0 8 + rainF E V (vW V))))).u7 (x := nI q) (by rw [vU_ne (by omega)]; exact ne0)
    have F9 := (show FS M M35 from ⟨fun b h1 h2 => k35 b h2, fun j hj => by rw [k35 80 (by omega)]⟩).tr ((FS.u0 (j := 3) (x := mx (nI 0) (mn (nI 999) (V 0 8 + rainF E V (vW V)))) (by omega)).tr (FS.u0 (j := 2) (x := nI q) (by omega)))
    have e133 := S9.2.1
    refine r_aload_n (pc := 131) X dX8_goStep_131 rfl ?_
    refine r_dup (pc := 132) X dX8_goStep_132 rfl ?_
    refine r_getiW (pc := 133) X dX8_goStep_133 tf_8_13 rfl (kc_80 C) e133 ?_
    refine r_iconst (pc := 136) (v := (nI 1)) X dX8_goStep_136 (by decide) ?_
    refine r_iadd (pc := 137) X dX8_goStep_137 ?_
    refine r_putiW (pc := 138) X dX8_goStep_138 tf_8_13 rfl (Or.inl rfl) (kc_80 C) ⟨rfl, rfl⟩ ?_
    refine r_iload_n (pc := 141) X dX8_goStep_141 rfl ?_
    refine r_iret (pc := 142) X dX8_goStep_142 rfl rfl ?_
    exact ⟨⟨_, _, rfl, rfl, by rw [ec], by rw [ec]; exact S9.u9, F9.tr (FS.u0 (by omega))⟩, rfl⟩
def FA (M M1 : Mem) : Prop := (∀ b, (b < 80 ∨ 86 < b) → b ≠ 96 → (b < 97 ∨ 99 < b) → M1 b = M b) ∧ ∀ j, 4 < j → (j < 29 ∨ 33 < j) → M1 80 j = M 80 j
theorem FA.rf {M : Mem} : FA M M := ⟨fun _ _ _ _ => rfl, fun _ _ _ => rfl⟩
theorem FA.tr {M M1 M2 : Mem} (a : FA M M1) (b : FA M1 M2) : FA M M2 := ⟨fun q h1 h2 h3 => (b.1 q h1 h2 h3).trans (a.1 q h1 h2 h3), fun j h1 h2 => (b.2 j h1 h2).trans (a.2 j h1 h2)⟩
theorem FS.fa {M M1 : Mem} (a : FS M M1) : FA M M1 := ⟨fun q h1 h2 h3 => a.1 q h1 h2, fun j h1 h2 => a.2 j h1⟩
theorem FA.u0 {M : Mem} {j : Nat} {x : Int32} (hj : j ≤ 4 ∨ (29 ≤ j ∧ j ≤ 33)) : FA M (mU M 80 (upd (M 80) j x)) := ⟨fun q h1 h2 h3 => mU_ne (by omega), fun i h1 h2 => by rw [mU_eq]; exact if_neg (by omega)⟩
theorem FA.uf {M : Mem} {f : Nat} {g : Nat → Int32} (hf : (81 ≤ f ∧ f ≤ 86) ∨ (97 ≤ f ∧ f ≤ 99)) : FA M (mU M f g) := ⟨fun q h1 h2 h3 => mU_ne (by omega), fun i h1 h2 => by rw [mU_ne (by omega)]⟩
theorem MEv.fa {E : EV} {M M1 : Mem} (e : MEv E M) (f : FA M M1) : MEv E M1 := e.kept (f.2 12 (by omega) (by omega)) (fun b h1 h2 => f.1 b (by omega) (by omega) (by omega))
/-- what was put aside -/
def SvP (V : VT) (M : Mem) : Prop := (M 80 30 = V 0 9 ∧ M 80 31 = bkF V ∧ M 80 32 = V 0 8 ∧ M 80 33 = enF V) ∧ ∀ i, i < 6 → M 97 i = V 3 i ∧ M 98 i = V 4 i ∧ M 99 i = V 5 i
theorem SvP.fs {V : VT} {M M1 : Mem} (s : SvP V M) (f : FS M M1) : SvP V M1 := by
  unfold SvP
  rw [f.2 30 (by omega), f.2 31 (by omega), f.2 32 (by omega), f.2 33 (by omega), f.1 97 (by omega) (by omega), f.1 98 (by omega) (by omega), f.1 99 (by omega) (by omega)]
  exact s
theorem MSt.oth {V : VT} {M : Mem} {f : Nat} {g : Nat → Int32} (S : MSt V M) (hf : 86 < f) : MSt V (mU M f g) := by
  unfold MSt
  rw [mU_ne (by omega)]
  refine ⟨S.1, S.2.1, S.2.2.1, S.2.2.2.1, S.2.2.2.2.1, fun k h1 h2 => ?_⟩
  rw [mU_ne (by omega)]
  exact S.2.2.2.2.2 k h1 h2
theorem MSt.slot {V : VT} {M : Mem} {j : Nat} {x : Int32} (S : MSt V M) (hj : 4 < j) : MSt V (mU M 80 (upd (M 80) j x)) := by
  unfold MSt
  rw [mU_eq]
  refine ⟨(pk_un (by omega)).trans S.1, (pk_un (by omega)).trans S.2.1, (pk_un (by omega)).trans S.2.2.1, (pk_un (by omega)).trans S.2.2.2.1, (pk_un (by omega)).trans S.2.2.2.2.1, fun k h1 h2 => ?_⟩
  rw [mU_ne (by omega)]
  exact S.2.2.2.2.2 k h1 h2
def SvA (V : VT) (M : Mem) : Prop := M 80 29 = nI 2000000000 ∧ M 80 30 = V 0 9 ∧ M 80 31 = bkF V ∧ M 80 32 = V 0 8 ∧ M 80 33 = enF V
set_option maxRecDepth 10000 in
set_option maxHeartbeats 4000000 in
theorem l_save : ∀ (d : Nat) {V : VT} {h : hp_T} {M0 : Mem} (C : CS h) {w : wc_T} {κ : cx_T} {Φ : Option Value → hp_T → Prop} (X : CX w κ d 8 cX8_save 2 none Φ) (hΦ : ∀ M1, MSt V M1 → SvA V M1 → SvP V M1 → FA M0 M1 → Φ none (wi h M1)),
    ∀ (m k : Nat) (M : Mem), k + m = 6 → MSt V M → SvA V M → FA M0 M → (∀ i, i < k → M 97 i = V 3 i ∧ M 98 i = V 4 i ∧ M 99 i = V 5 i) → GG w κ 41 [some (.ref 80), some (.int (nI k))] [] (wi h M) := by
  intro d V h M0 C w κ Φ X hΦ m
  induction m with
  | zero =>
    intro k M hk S A F R
    have e : k = 6 := by omega
    subst e
    refine r_iload_n (pc := 41) X dX8_save_41 rfl ?_
    refine r_bipush (pc := 42) (v := (nI 6)) X dX8_save_42 (by decide) ?_
    refine r_icmp_geN (pc := 44) X dX8_save_44 (tgt := 89) (by decide) (by omega) (by omega) (fun c44 => ?_) (fun c44 => ?_)
    · refine r_vret (pc := 89) X dX8_save_89 rfl ?_
      exact hΦ M S A ⟨A.2, R⟩ F
    · exact absurd (Nat.le_refl _) c44
  | succ m ih =>
    intro k M hk S A F R
    have hk6 : k < 6 := by omega
    refine r_iload_n (pc := 41) X dX8_save_41 rfl ?_
    refine r_bipush (pc := 42) (v := (nI 6)) X dX8_save_42 (by decide) ?_
    refine r_icmp_geN (pc := 44) X dX8_save_44 (tgt := 89) (by decide) (by omega) (by omega) (fun c44 => ?_) (fun c44 => ?_)
    · exact absurd c44 (by omega)
    · refine r_aload_n (pc := 47) X dX8_save_47 rfl ?_
      refine r_getr (pc := 48) X dX8_save_48 tf_8_114 rfl (kc_80 C) (rc_80_34 C) ?_
      refine r_iload_n (pc := 51) X dX8_save_51 rfl ?_
      refine r_aload_n (pc := 52) X dX8_save_52 rfl ?_
      refine r_getr (pc := 53) X dX8_save_53 tf_8_32 rfl (kc_80 C) (rc_80_7 C) ?_
      refine r_iload_n (pc := 56) X dX8_save_56 rfl ?_
      refine r_ialdW (pc := 57) X dX8_save_57 (kc_83 C) rfl hk6 (by omega) (S.a3 k) ?_
      refine r_iastW (pc := 58) X dX8_save_58 (kc_97 C) rfl hk6 (by omega) ?_
      refine r_aload_n (pc := 59) X dX8_save_59 rfl ?_
      refine r_getr (pc := 60) X dX8_save_60 tf_8_117 rfl (kc_80 C) (rc_80_35 C) ?_
      refine r_iload_n (pc := 63) X dX8_save_63 rfl ?_
      refine r_aload_n (pc := 64) X dX8_save_64 rfl ?_
      refine r_getr (pc := 65) X dX8_save_65 tf_8_35 rfl (kc_80 C) (rc_80_8 C) ?_
      refine r_iload_n (pc := 68) X dX8_save_68 rfl ?_
      refine r_ialdW (pc := 69) X dX8_save_69 (kc_84 C) rfl hk6 (by omega) (show mU M 97 _ 84 k = V 4 k by rw [mU_ne (by omega)]; exact S.a4 k) ?_
      refine r_iastW (pc := 70) X dX8_save_70 (kc_98 C) rfl hk6 (by omega) ?_
      refine r_aload_n (pc := 71) X dX8_save_71 rfl ?_
      refine r_getr (pc := 72) X dX8_save_72 tf_8_120 rfl (kc_80 C) (rc_80_36 C) ?_
      refine r_iload_n (pc := 75) X dX8_save_75 rfl ?_
      refine r_aload_n (pc := 76) X dX8_save_76 rfl ?_
      refine r_getr (pc := 77) X dX8_save_77 tf_8_38 rfl (kc_80 C) (rc_80_9 C) ?_
      refine r_iload_n (pc := 80) X dX8_save_80 rfl ?_
      refine r_ialdW (pc := 81) X dX8_save_81 (kc_85 C) rfl hk6 (by omega) (show mU _ 98 _ 85 k = V 5 k by rw [mU_ne (by omega), mU_ne (by omega)]; exact S.a5 k) ?_
      refine r_iastW (pc := 82) X dX8_save_82 (kc_99 C) rfl hk6 (by omega) ?_
      refine r_iinc (pc := 83) X dX8_save_83 rfl (by first | exact nI_i1 _ | rfl) ?_
      refine r_goto (pc := 86) X dX8_save_86 (tgt := 41) (by decide) ?_
      refine ih (k + 1) _ (by omega) (((S.oth (by omega)).oth (by omega)).oth (by omega)) ?_ (((F.tr (FA.uf (by omega))).tr (FA.uf (by omega))).tr (FA.uf (by omega))) (fun i hi => ?_)
      · unfold SvA
        rw [mU_ne (by omega), mU_ne (by omega), mU_ne (by omega)]
        exact A
      · rw [mU_ne (by omega), mU_ne (by omega), mU_eq, mU_ne (by omega), mU_eq, mU_eq]
        by_cases e : i = k
        · subst e
          rw [pk_us, pk_us, pk_us]
          exact ⟨rfl, rfl, rfl⟩
        · rw [pk_un e, pk_un e, pk_un e, mU_ne (by omega), mU_ne (by omega), mU_ne (by omega)]
          exact R i (by omega)
set_option maxRecDepth 10000 in
set_option maxHeartbeats 4000000 in
theorem m_save : ∀ (d : Nat) {V : VT} {h : hp_T} {M : Mem} (C : CS h) (S : MSt V M), Ev d nX8_save [.ref 80] (wi h M) (fun M1 => MSt V M1 ∧ SvP V M1 ∧ M1 80 29 = nI 2000000000 ∧ FA M M1) := by
  intro d V h M C S
  refine Ex.of mm_X8_save (Nat.le_of_ble_eq_true rfl) fun w κ X hk hnm => ?_
  refine r_aload_n (pc := 0) X dX8_save_0 rfl ?_
  refine r_ldcw (pc := 1) (v := 2000000000) X dX8_save_1 tk_8_352 ?_
  refine r_putiW (pc := 4) X dX8_save_4 tf_8_99 rfl (Or.inl rfl) (kc_80 C) ⟨rfl, rfl⟩ ?_
  refine r_aload_n (pc := 7) X dX8_save_7 rfl ?_
  refine r_aload_n (pc := 8) X dX8_save_8 rfl ?_
  refine r_getiW (pc := 9) X dX8_save_9 tf_8_13 rfl (kc_80 C) (show M 80 1 = _ from S.2.1) ?_
  refine r_putiW (pc := 12) X dX8_save_12 tf_8_102 rfl (Or.inl rfl) (kc_80 C) ⟨rfl, rfl⟩ ?_
  refine r_aload_n (pc := 15) X dX8_save_15 rfl ?_
  refine r_aload_n (pc := 16) X dX8_save_16 rfl ?_
  refine r_getiW (pc := 17) X dX8_save_17 tf_8_16 rfl (kc_80 C) (show M 80 2 = _ from S.2.2.1) ?_
  refine r_putiW (pc := 20) X dX8_save_20 tf_8_105 rfl (Or.inl rfl) (kc_80 C) ⟨rfl, rfl⟩ ?_
  refine r_aload_n (pc := 23) X dX8_save_23 rfl ?_
  refine r_aload_n (pc := 24) X dX8_save_24 rfl ?_
  refine r_getiW (pc := 25) X dX8_save_25 tf_8_19 rfl (kc_80 C) (show M 80 3 = _ from S.2.2.2.1) ?_
  refine r_putiW (pc := 28) X dX8_save_28 tf_8_108 rfl (Or.inl rfl) (kc_80 C) ⟨rfl, rfl⟩ ?_
  refine r_aload_n (pc := 31) X dX8_save_31 rfl ?_
  refine r_aload_n (pc := 32) X dX8_save_32 rfl ?_
  refine r_getiW (pc := 33) X dX8_save_33 tf_8_22 rfl (kc_80 C) (show M 80 4 = _ from S.2.2.2.2.1) ?_
  refine r_putiW (pc := 36) X dX8_save_36 tf_8_111 rfl (Or.inl rfl) (kc_80 C) ⟨rfl, rfl⟩ ?_
  refine r_iconst (pc := 39) (v := (nI 0)) X dX8_save_39 (by decide) ?_
  refine r_istore_n (pc := 40) X dX8_save_40 (Nat.le_of_ble_eq_true rfl) ?_
  exact l_save d C X (fun M1 s a p f => ⟨⟨M1, rfl, rfl, s, p, a.1, f⟩, rfl⟩) 6 0 _ (by omega) (((((S.slot (by omega)).slot (by omega)).slot (by omega)).slot (by omega)).slot (by omega)) (by unfold SvA; rw [mU_eq]; exact ⟨rfl, rfl, rfl, rfl, rfl⟩) (((((FA.u0 (by omega)).tr (FA.u0 (by omega))).tr (FA.u0 (by omega))).tr (FA.u0 (by omega))).tr (FA.u0 (by omega))) (fun i hi => absurd hi (Nat.not_lt_zero _))
/-- people, kinds, v, rows stay -/
def Kp (V V2 : VT) : Prop := V2 0 6 = V 0 6 ∧ V2 1 = V 1 ∧ V2 2 = V 2 ∧ V2 6 = V 6
theorem Kp.rf {V : VT} : Kp V V := ⟨rfl, rfl, rfl, rfl⟩
theorem Kp.tr {V V1 V2 : VT} (a : Kp V V1) (b : Kp V1 V2) : Kp V V2 := ⟨b.1.trans a.1, b.2.1.trans a.2.1, b.2.2.1.trans a.2.2.1, b.2.2.2.trans a.2.2.2⟩
theorem Kp.u {V : VT} {f i : Nat} {x : Int32} (h : (f = 0 ∧ i ≠ 6) ∨ f = 3 ∨ f = 4 ∨ f = 5) : Kp V (vU V f i x) := ⟨vU_ne (by omega), by funext j; rw [vU_ne (by omega)], by funext j; rw [vU_ne (by omega)], by funext j; rw [vU_ne (by omega)]⟩
theorem Kp.carry {E : EV} {V : VT} {p q : Nat} : Kp V (carryF E V p q).2 := by
  unfold carryF
  split
  · split
    · exact Kp.u (by omega)
    · exact ((Kp.u (by omega)).tr (Kp.u (by omega))).tr (Kp.u (by omega))
  · exact (Kp.u (by omega)).tr (Kp.u (by omega))
theorem Kp.move {E : EV} {V : VT} : Kp V (moveF E V).2 := by
  unfold moveF
  split
  · exact Kp.rf
  · exact Kp.carry.tr (Kp.u (by omega))
theorem Kp.goes {E : EV} : ∀ (n : Nat) {V : VT}, Kp V (goF E n V) := by
  intro n
  induction n with
  | zero => intro V; exact Kp.rf
  | succ n ih => intro V; exact Kp.move.tr ih
theorem Kp.hand {V : VT} {x : Int32} : Kp V (handF V x) := (Kp.u (by omega)).tr (Kp.u (by omega))
def PbR (V : VT) (k : Nat) (M : Mem) : Prop := (M 80 0 = V 0 6 ∧ M 80 1 = V 0 9 ∧ M 80 2 = bkF V ∧ M 80 3 = V 0 8 ∧ M 80 4 = enF V) ∧ (M 81 = V 1 ∧ M 82 = V 2 ∧ M 86 = V 6) ∧ (∀ i, i < k → M 83 i = V 3 i ∧ M 84 i = V 4 i ∧ M 85 i = V 5 i) ∧ ∀ i, 6 ≤ i → M 83 i = 0 ∧ M 84 i = 0 ∧ M 85 i = 0
set_option maxRecDepth 10000 in
set_option maxHeartbeats 4000000 in
theorem l_putb : ∀ (d : Nat) {V : VT} {h : hp_T} {M0 : Mem} (C : CS h) (hz : ZV V) {w : wc_T} {κ : cx_T} {Φ : Option Value → hp_T → Prop} (X : CX w κ d 8 cX8_putBack 2 none Φ) (hΦ : ∀ M1, MSt V M1 → M1 80 29 = nI 9999 → FA M0 M1 → Φ none (wi h M1)),
    ∀ (m k : Nat) (M : Mem), k + m = 6 → PbR V k M → SvP V M → M 80 29 = nI 9999 → FA M0 M → GG w κ 41 [some (.ref 80), some (.int (nI k))] [] (wi h M) := by
  intro d V h M0 C hz w κ Φ X hΦ m
  induction m with
  | zero =>
    intro k M hk S Z K F
    have e : k = 6 := by omega
    subst e
    obtain ⟨s1, ⟨s2, s3, s4⟩, s5, s6⟩ := S
    have fin : MSt V M := by
      refine ⟨s1.1, s1.2.1, s1.2.2.1, s1.2.2.2.1, s1.2.2.2.2, fun f h1 h2 => ?_⟩
      rcases (show f = 1 ∨ f = 2 ∨ f = 3 ∨ f = 4 ∨ f = 5 ∨ f = 6 by omega) with rfl | rfl | rfl | rfl | rfl | rfl
      · exact s2
      · exact s3
      · funext i
        by_cases c : i < 6
        · exact (s5 i c).1
        · exact (s6 i (by omega)).1.trans (hz.2.1 3 i (by omega) (by omega) (by omega)).symm
      · funext i
        by_cases c : i < 6
        · exact (s5 i c).2.1
        · exact (s6 i (by omega)).2.1.trans (hz.2.1 4 i (by omega) (by omega) (by omega)).symm
      · funext i
        by_cases c : i < 6
        · exact (s5 i c).2.2
        · exact (s6 i (by omega)).2.2.trans (hz.2.1 5 i (by omega) (by omega) (by omega)).symm
      · exact s4
    refine r_iload_n (pc := 41) X dX8_putBack_41 rfl ?_
    refine r_bipush (pc := 42) (v := (nI 6)) X dX8_putBack_42 (by decide) ?_
    refine r_icmp_geN (pc := 44) X dX8_putBack_44 (tgt := 89) (by decide) (by omega) (by omega) (fun c44 => ?_) (fun c44 => ?_)
    · refine r_vret (pc := 89) X dX8_putBack_89 rfl ?_
      exact hΦ M fin K F
    · exact absurd (Nat.le_refl _) c44
  | succ m ih =>
    intro k M hk S Z K F
    have hk6 : k < 6 := by omega
    obtain ⟨s1, ⟨s2, s3, s4⟩, s5, s6⟩ := S
    have z := Z.2 k hk6
    refine r_iload_n (pc := 41) X dX8_putBack_41 rfl ?_
    refine r_bipush (pc := 42) (v := (nI 6)) X dX8_putBack_42 (by decide) ?_
    refine r_icmp_geN (pc := 44) X dX8_putBack_44 (tgt := 89) (by decide) (by omega) (by omega) (fun c44 => ?_) (fun c44 => ?_)
    · exact absurd c44 (by omega)
    · refine r_aload_n (pc := 47) X dX8_putBack_47 rfl ?_
      refine r_getr (pc := 48) X dX8_putBack_48 tf_8_32 rfl (kc_80 C) (rc_80_7 C) ?_
      refine r_iload_n (pc := 51) X dX8_putBack_51 rfl ?_
      refine r_aload_n (pc := 52) X dX8_putBack_52 rfl ?_
      refine r_getr (pc := 53) X dX8_putBack_53 tf_8_114 rfl (kc_80 C) (rc_80_34 C) ?_
      refine r_iload_n (pc := 56) X dX8_putBack_56 rfl ?_
      refine r_ialdW (pc := 57) X dX8_putBack_57 (kc_97 C) rfl hk6 (by omega) z.1 ?_
      refine r_iastW (pc := 58) X dX8_putBack_58 (kc_83 C) rfl hk6 (by omega) ?_
      refine r_aload_n (pc := 59) X dX8_putBack_59 rfl ?_
      refine r_getr (pc := 60) X dX8_putBack_60 tf_8_35 rfl (kc_80 C) (rc_80_8 C) ?_
      refine r_iload_n (pc := 63) X dX8_putBack_63 rfl ?_
      refine r_aload_n (pc := 64) X dX8_putBack_64 rfl ?_
      refine r_getr (pc := 65) X dX8_putBack_65 tf_8_117 rfl (kc_80 C) (rc_80_35 C) ?_
      refine r_iload_n (pc := 68) X dX8_putBack_68 rfl ?_
      refine r_ialdW (pc := 69) X dX8_putBack_69 (kc_98 C) rfl hk6 (by omega) (show mU M 83 _ 98 k = V 4 k by rw [mU_ne (by omega)]; exact z.2.1) ?_
      refine r_iastW (pc := 70) X dX8_putBack_70 (kc_84 C) rfl hk6 (by omega) ?_
      refine r_aload_n (pc := 71) X dX8_putBack_71 rfl ?_
      refine r_getr (pc := 72) X dX8_putBack_72 tf_8_38 rfl (kc_80 C) (rc_80_9 C) ?_
      refine r_iload_n (pc := 75) X dX8_putBack_75 rfl ?_
      refine r_aload_n (pc := 76) X dX8_putBack_76 rfl ?_
      refine r_getr (pc := 77) X dX8_putBack_77 tf_8_120 rfl (kc_80 C) (rc_80_36 C) ?_
      refine r_iload_n (pc := 80) X dX8_putBack_80 rfl ?_
      refine r_ialdW (pc := 81) X dX8_putBack_81 (kc_99 C) rfl hk6 (by omega) (show mU _ 84 _ 99 k = V 5 k by rw [mU_ne (by omega), mU_ne (by omega)]; exact z.2.2) ?_
      refine r_iastW (pc := 82) X dX8_putBack_82 (kc_85 C) rfl hk6 (by omega) ?_
      refine r_iinc (pc := 83) X dX8_putBack_83 rfl (by first | exact nI_i1 _ | rfl) ?_
      refine r_goto (pc := 86) X dX8_putBack_86 (tgt := 41) (by decide) ?_
      refine ih (k + 1) _ (by omega) ⟨?_, ?_, fun i hi => ?_, fun i hi => ?_⟩ ?_ ?_ (((F.tr (FA.uf (by omega))).tr (FA.uf (by omega))).tr (FA.uf (by omega)))
      · rw [mU_ne (by omega), mU_ne (by omega), mU_ne (by omega)]
        exact s1
      · rw [mU_ne (by omega), mU_ne (by omega), mU_ne (by omega), mU_ne (by omega), mU_ne (by omega), mU_ne (by omega), mU_ne (by omega), mU_ne (by omega), mU_ne (by omega)]
        exact ⟨s2, s3, s4⟩
      · rw [mU_ne (by omega), mU_ne (by omega), mU_eq, mU_ne (by omega), mU_eq, mU_eq]
        by_cases e : i = k
        · subst e
          rw [pk_us, pk_us, pk_us]
          exact ⟨rfl, rfl, rfl⟩
        · rw [pk_un e, pk_un e, pk_un e, mU_ne (by omega), mU_ne (by omega), mU_ne (by omega)]
          exact s5 i (by omega)
      · rw [mU_ne (by omega), mU_ne (by omega), mU_eq, mU_ne (by omega), mU_eq, mU_eq, pk_un (by omega), pk_un (by omega), pk_un (by omega), mU_ne (by omega), mU_ne (by omega), mU_ne (by omega)]
        exact s6 i hi
      · unfold SvP
        rw [mU_ne (by omega), mU_ne (by omega), mU_ne (by omega), mU_ne (by omega), mU_ne (by omega), mU_ne (by omega), mU_ne (by omega), mU_ne (by omega), mU_ne (by omega), mU_ne (by omega), mU_ne (by omega), mU_ne (by omega)]
        exact Z
      · rw [mU_ne (by omega), mU_ne (by omega), mU_ne (by omega)]
        exact K
set_option maxRecDepth 10000 in
set_option maxHeartbeats 4000000 in
theorem m_putBack : ∀ (d : Nat) {V V2 : VT} {h : hp_T} {M : Mem} (C : CS h) (S : MSt V2 M) (Z : SvP V M) (hk : Kp V V2) (hz : ZV V) (hz2 : ZV V2), Ev d nX8_putBack [.ref 80] (wi h M) (fun M1 => MSt V M1 ∧ M1 80 29 = nI 9999 ∧ FA M M1) := by
  intro d V V2 h M C S Z hkp hz hz2
  obtain ⟨z1, z2⟩ := Z
  refine Ex.of mm_X8_putBack (Nat.le_of_ble_eq_true rfl) fun w κ X hk hnm => ?_
  refine r_aload_n (pc := 0) X dX8_putBack_0 rfl ?_
  refine r_sipush (pc := 1) (v := (nI 9999)) X dX8_putBack_1 (by decide) ?_
  refine r_putiW (pc := 4) X dX8_putBack_4 tf_8_99 rfl (Or.inl rfl) (kc_80 C) ⟨rfl, rfl⟩ ?_
  refine r_aload_n (pc := 7) X dX8_putBack_7 rfl ?_
  refine r_aload_n (pc := 8) X dX8_putBack_8 rfl ?_
  refine r_getiW (pc := 9) X dX8_putBack_9 tf_8_102 rfl (kc_80 C) (show M 80 30 = _ from z1.1) ?_
  refine r_putiW (pc := 12) X dX8_putBack_12 tf_8_13 rfl (Or.inl rfl) (kc_80 C) ⟨rfl, rfl⟩ ?_
  refine r_aload_n (pc := 15) X dX8_putBack_15 rfl ?_
  refine r_aload_n (pc := 16) X dX8_putBack_16 rfl ?_
  refine r_getiW (pc := 17) X dX8_putBack_17 tf_8_105 rfl (kc_80 C) (show M 80 31 = _ from z1.2.1) ?_
  refine r_putiW (pc := 20) X dX8_putBack_20 tf_8_16 rfl (Or.inl rfl) (kc_80 C) ⟨rfl, rfl⟩ ?_
  refine r_aload_n (pc := 23) X dX8_putBack_23 rfl ?_
  refine r_aload_n (pc := 24) X dX8_putBack_24 rfl ?_
  refine r_getiW (pc := 25) X dX8_putBack_25 tf_8_108 rfl (kc_80 C) (show M 80 32 = _ from z1.2.2.1) ?_
  refine r_putiW (pc := 28) X dX8_putBack_28 tf_8_19 rfl (Or.inl rfl) (kc_80 C) ⟨rfl, rfl⟩ ?_
  refine r_aload_n (pc := 31) X dX8_putBack_31 rfl ?_
  refine r_aload_n (pc := 32) X dX8_putBack_32 rfl ?_
  refine r_getiW (pc := 33) X dX8_putBack_33 tf_8_111 rfl (kc_80 C) (show M 80 33 = _ from z1.2.2.2) ?_
  refine r_putiW (pc := 36) X dX8_putBack_36 tf_8_22 rfl (Or.inl rfl) (kc_80 C) ⟨rfl, rfl⟩ ?_
  refine r_iconst (pc := 39) (v := (nI 0)) X dX8_putBack_39 (by decide) ?_
  refine r_istore_n (pc := 40) X dX8_putBack_40 (Nat.le_of_ble_eq_true rfl) ?_
  refine l_putb d C hz X (fun M1 s a f => ⟨⟨M1, rfl, rfl, s, a, f⟩, rfl⟩) 6 0 _ (by omega) ⟨?_, ?_, fun i hi => absurd hi (Nat.not_lt_zero _), fun i hi => ?_⟩ ?_ ?_ (((((FA.u0 (by omega)).tr (FA.u0 (by omega))).tr (FA.u0 (by omega))).tr (FA.u0 (by omega))).tr (FA.u0 (by omega)))
  · rw [mU_eq]
    exact ⟨S.1.trans hkp.1, rfl, rfl, rfl, rfl⟩
  · rw [mU_ne (by omega), mU_ne (by omega), mU_ne (by omega), mU_ne (by omega), mU_ne (by omega), mU_ne (by omega), mU_ne (by omega), mU_ne (by omega), mU_ne (by omega), mU_ne (by omega), mU_ne (by omega), mU_ne (by omega), mU_ne (by omega), mU_ne (by omega), mU_ne (by omega)]
    exact ⟨(S.2.2.2.2.2 1 (by omega) (by omega)).trans hkp.2.1, (S.2.2.2.2.2 2 (by omega) (by omega)).trans hkp.2.2.1, (S.2.2.2.2.2 6 (by omega) (by omega)).trans hkp.2.2.2⟩
  · rw [mU_ne (by omega), mU_ne (by omega), mU_ne (by omega), mU_ne (by omega), mU_ne (by omega), mU_ne (by omega), mU_ne (by omega), mU_ne (by omega), mU_ne (by omega), mU_ne (by omega), mU_ne (by omega), mU_ne (by omega), mU_ne (by omega), mU_ne (by omega), mU_ne (by omega)]
    exact ⟨(S.a3 i).trans (hz2.2.1 3 i (by omega) (by omega) hi), (S.a4 i).trans (hz2.2.1 4 i (by omega) (by omega) hi), (S.a5 i).trans (hz2.2.1 5 i (by omega) (by omega) hi)⟩
  · unfold SvP
    rw [mU_eq]
    exact ⟨⟨z1.1, z1.2.1, z1.2.2.1, z1.2.2.2⟩, fun i hi => by
      rw [mU_ne (by omega), mU_ne (by omega), mU_ne (by omega), mU_ne (by omega), mU_ne (by omega), mU_ne (by omega), mU_ne (by omega), mU_ne (by omega), mU_ne (by omega), mU_ne (by omega), mU_ne (by omega), mU_ne (by omega), mU_ne (by omega), mU_ne (by omega), mU_ne (by omega)]
      exact z2 i hi⟩
  · rw [mU_eq]
    rfl
set_option maxRecDepth 10000 in
set_option maxHeartbeats 4000000 in
theorem l_gos : ∀ (d : Nat) {E : EV} {h : hp_T} {M0 : Mem} (C : CS h) (hEW : EW E) {n K : Nat} (hn : n ≤ 1000) (hK2 : K < 2 ^ 31) {w : wc_T} {κ : cx_T} {Φ : Option Value → hp_T → Prop} (X : CX w κ (d + 6) 8 cX8_goSteps 4 none Φ) {VV : VT} (hΦ : ∀ M1, MSt VV M1 → FS M0 M1 → Φ none (wi h M1)),
    ∀ (m k : Nat) (V : VT) (M : Mem) (B : Nat) (z : Option Value), k + m = n → MSt V M → MEv E M → WF B V → M 80 29 = nI K → B + 2 * m ≤ K → B + 2 * m ≤ 1000000 → FS M0 M → goF E m V = VV → GG w κ 2 [some (.ref 80), some (.int (nI n)), some (.int (nI k)), z] [] (wi h M) := by
  intro d E h M0 C hEW n K hn hK2 w κ Φ X VV hΦ m
  induction m with
  | zero =>
    intro k V M B z hk S hE hW hK hB hB2 F hV
    have e : k = n := by omega
    subst e
    have hV : V = VV := hV
    subst hV
    refine r_iload_n (pc := 2) X dX8_goSteps_2 rfl ?_
    refine r_iload_n (pc := 3) X dX8_goSteps_3 rfl ?_
    refine r_icmp_geN (pc := 4) X dX8_goSteps_4 (tgt := 25) (by decide) (by omega) (by omega) (fun c4 => ?_) (fun c4 => ?_)
    · refine r_vret (pc := 25) X dX8_goSteps_25 rfl ?_
      exact hΦ M S F
    · exact absurd (Nat.le_refl _) c4
  | succ m ih =>
    intro k V M B z hk S hE hW hK hB hB2 F hV
    refine r_iload_n (pc := 2) X dX8_goSteps_2 rfl ?_
    refine r_iload_n (pc := 3) X dX8_goSteps_3 rfl ?_
    refine r_icmp_geN (pc := 4) X dX8_goSteps_4 (tgt := 25) (by decide) (by omega) (by omega) (fun c4 => ?_) (fun c4 => ?_)
    · exact absurd c4 (by omega)
    · refine r_aload_n (pc := 7) X dX8_goSteps_7 rfl ?_
      refine r_c0_0P (pc := 8) X rfl dX8_goSteps_8 tc_8_346 mm_X8_canGo (kc_80 C) rfl rfl (m_canGo (d + 5) C S hW) (Nat.le_of_ble_eq_true rfl) ?_
      refine r_if_eqB (pc := 11) X dX8_goSteps_11 (tgt := 25) (by decide) (fun c11 => ?_) (fun c11 => ?_)
      · refine r_vret (pc := 25) X dX8_goSteps_25 rfl ?_
        rw [cg_go c11] at hV
        subst hV
        exact hΦ M S F
      · refine r_aload_n (pc := 14) X dX8_goSteps_14 rfl ?_
        refine r_c0_0IW (pc := 15) X rfl dX8_goSteps_15 tc_8_349 mm_X8_goStep (kc_80 C) rfl rfl (m_goStep d C S hE hW c11 hK (by omega) hK2) (Nat.le_of_ble_eq_true rfl) (fun r15 M15 q15 => ?_)
        refine r_istore_n (pc := 18) X dX8_goSteps_18 (Nat.le_of_ble_eq_true rfl) ?_
        refine r_iinc (pc := 19) X dX8_goSteps_19 rfl (by first | exact nI_i1 _ | rfl) ?_
        refine r_goto (pc := 22) X dX8_goSteps_22 (tgt := 2) (by decide) ?_
        obtain ⟨-, s9, f9⟩ := q15
        exact ih (k + 1) _ M15 (B + 2) _ (by omega) s9 (hE.fs f9) (hW.move hEW (by omega)) (by rw [f9.2 29 (by omega)]; exact hK) (by omega) (by omega) (F.tr f9) hV
set_option maxRecDepth 10000 in
set_option maxHeartbeats 4000000 in
theorem m_goSteps : ∀ (d n : Nat) {E : EV} {V : VT} {h : hp_T} {M : Mem} {B : Nat} (C : CS h) (S : MSt V M) (hE : MEv E M) (hW : WF B V) (hEW : EW E) {K : Nat} (hn : n ≤ 1000) (hK : M 80 29 = nI K) (hK2 : K < 2 ^ 31) (hB : B + 2 * n ≤ K) (hB2 : B + 2 * n ≤ 1000000), Ev (d + 6) nX8_goSteps [.ref 80, .int (nI n)] (wi h M) (fun M1 => MSt (goF E n V) M1 ∧ FS M M1) := by
  intro d n E V h M B C S hE hW hEW K hn hK hK2 hB hB2
  refine Ex.of mm_X8_goSteps (Nat.le_of_ble_eq_true rfl) fun w κ X hk hnm => ?_
  refine r_iconst (pc := 0) (v := (nI 0)) X dX8_goSteps_0 (by decide) ?_
  refine r_istore_n (pc := 1) X dX8_goSteps_1 (Nat.le_of_ble_eq_true rfl) ?_
  exact l_gos d C hEW hn hK2 X (fun M1 s f => ⟨⟨M1, rfl, rfl, s, f⟩, rfl⟩) n 0 V M B _ (by omega) S hE hW hK hB hB2 FS.rf rfl
theorem out_stuck {E : EV} {V : VT} (h : endF V = false) (hP : vP V < 2) : ∀ n b, outF E n b V = b + n := by
  have e : moveF E V = (-3, V) := by
    unfold moveF
    rw [if_pos (Or.inr hP)]
  intro n
  induction n with
  | zero => intro b; rfl
  | succ n ih =>
    intro b
    unfold outF
    rw [if_neg (by rw [h]; decide), e]
    rw [ih (b + 1)]
    omega
set_option maxRecDepth 10000 in
set_option maxHeartbeats 4000000 in
theorem l_toe : ∀ (d : Nat) {E : EV} {h : hp_T} {M0 : Mem} {V0 : VT} (C : CS h) (hEW : EW E) {K : Nat} (hK2 : K < 2 ^ 31) {w : wc_T} {κ : cx_T} {Φ : Option Value → hp_T → Prop} (X : CX w κ (d + 6) 8 cX8_toEnd 3 (some .int) Φ) {rr : Nat} (hΦ : ∀ M1 V1, MSt V1 M1 → Kp V0 V1 → ZV V1 → FS M0 M1 → Φ (some (.int (nI rr))) (wi h M1)),
    ∀ (m k : Nat) (V : VT) (M : Mem) (B : Nat) (z : Option Value), k + m = 100 → 1 ≤ m → MSt V M → MEv E M → WF B V → ZV V → Kp V0 V → M 80 29 = nI K → B + 2 * m ≤ K → B + 2 * m ≤ 1000000 → FS M0 M → outF E m k V = rr → GG w κ 2 [some (.ref 80), some (.int (nI k)), z] [] (wi h M) := by
  intro d E h M0 V0 C hEW K hK2 w κ Φ X rr hΦ m
  induction m with
  | zero => intro k V M B z hk h1; omega
  | succ m ih =>
    intro k V M B z hk h1 S hE hW hz hkp hK hB hB2 F hV
    have h6 := hW.2.1
    refine r_iload_n (pc := 2) X dX8_toEnd_2 rfl ?_
    refine r_bipush (pc := 3) (v := (nI 100)) X dX8_toEnd_3 (by decide) ?_
    refine r_icmp_geN (pc := 5) X dX8_toEnd_5 (tgt := 46) (by decide) (by omega) (by omega) (fun c5 => ?_) (fun c5 => ?_)
    · exact absurd c5 (by omega)
    · refine r_aload_n (pc := 8) X dX8_toEnd_8 rfl ?_
      refine r_getiW (pc := 9) X dX8_toEnd_9 tf_8_22 rfl (kc_80 C) S.2.2.2.2.1 ?_
      refine r_if_ge (pc := 12) X dX8_toEnd_12 (tgt := 46) (by decide) (fun c12 => ?_) (fun c12 => ?_)
      · refine r_iload_n (pc := 46) X dX8_toEnd_46 rfl ?_
        refine r_iret (pc := 47) X dX8_toEnd_47 rfl rfl ?_
        have e9 : outF E (m + 1) k V = k := by
          unfold outF
          rw [if_pos (show endF V = true from by cases e : endF V with | true => rfl | false => exact absurd ((en_lt hW).mpr e) (Int32.not_lt.mpr c12))]
        rw [e9] at hV
        subst hV
        exact hΦ M V S hkp hz F
      · refine r_aload_n (pc := 15) X dX8_toEnd_15 rfl ?_
        refine r_getiW (pc := 16) X dX8_toEnd_16 tf_8_7 rfl (kc_80 C) (S.pp hW) ?_
        refine r_iconst (pc := 19) (v := (nI 2)) X dX8_toEnd_19 (by decide) ?_
        refine r_icmp_geN (pc := 20) X dX8_toEnd_20 (tgt := 26) (by decide) (by omega) (by omega) (fun c20 => ?_) (fun c20 => ?_)
        · refine r_iload_n (pc := 26) X dX8_toEnd_26 rfl ?_
          refine r_bipush (pc := 27) (v := (nI 99)) X dX8_toEnd_27 (by decide) ?_
          refine r_icmp_neN (pc := 29) X dX8_toEnd_29 (tgt := 35) (by decide) (by omega) (by omega) (fun c29 => ?_) (fun c29 => ?_)
          · have hcg : cgF V = true := by
              unfold cgF
              rw [(en_lt hW).mp (Int32.not_le.mp c12), decide_eq_false (show ¬ vP V < 2 by omega)]
              rfl
            refine r_aload_n (pc := 35) X dX8_toEnd_35 rfl ?_
            refine r_c0_0IW (pc := 36) X rfl dX8_toEnd_36 tc_8_349 mm_X8_goStep (kc_80 C) rfl rfl (m_goStep d C S hE hW hcg hK (by omega) hK2) (Nat.le_of_ble_eq_true rfl) (fun r36 M36 q36 => ?_)
            refine r_istore_n (pc := 39) X dX8_toEnd_39 (Nat.le_of_ble_eq_true rfl) ?_
            refine r_iinc (pc := 40) X dX8_toEnd_40 rfl (by first | exact nI_i1 _ | rfl) ?_
            refine r_goto (pc := 43) X dX8_toEnd_43 (tgt := 2) (by decide) ?_
            obtain ⟨-, s9, f9⟩ := q36
            have e9 : outF E (m + 1) k V = outF E m (k + 1) (moveF E V).2 := by
              conv => lhs; unfold outF
              rw [if_neg (by rw [(en_lt hW).mp (Int32.not_le.mp c12)]; decide)]
            rw [e9] at hV
            exact ih (k + 1) _ M36 (B + 2) _ (by omega) (by omega) s9 (hE.fs f9) (hW.move hEW (by omega)) (hz.move hW) (hkp.tr Kp.move) (by rw [f9.2 29 (by omega)]; exact hK) (by omega) (by omega) (F.tr f9) hV
          · refine r_bipush (pc := 32) (v := (nI 100)) X dX8_toEnd_32 (by decide) ?_
            refine r_iret (pc := 34) X dX8_toEnd_34 rfl rfl ?_
            have hm : m = 0 := by omega
            subst hm
            have e9 : outF E 1 k V = k + 1 := by
              show (if endF V = true then k else k + 1) = k + 1
              rw [if_neg (by rw [(en_lt hW).mp (Int32.not_le.mp c12)]; decide)]
            rw [show 0 + 1 = 1 from rfl, e9] at hV
            have e8 : rr = 100 := by omega
            rw [e8] at hΦ
            exact hΦ M V S hkp hz F
        · refine r_bipush (pc := 23) (v := (nI 100)) X dX8_toEnd_23 (by decide) ?_
          refine r_iret (pc := 25) X dX8_toEnd_25 rfl rfl ?_
          rw [out_stuck ((en_lt hW).mp (Int32.not_le.mp c12)) (by omega)] at hV
          have e9 : rr = 100 := by omega
          rw [e9] at hΦ
          exact hΦ M V S hkp hz F
set_option maxRecDepth 10000 in
set_option maxHeartbeats 4000000 in
theorem m_toEnd : ∀ (d : Nat) {E : EV} {V : VT} {h : hp_T} {M : Mem} {B : Nat} (C : CS h) (S : MSt V M) (hE : MEv E M) (hW : WF B V) (hEW : EW E) (hz : ZV V) {K : Nat} (hK : M 80 29 = nI K) (hK2 : K < 2 ^ 31) (hB : B + 200 ≤ K) (hB2 : B + 200 ≤ 1000000), Ei (d + 6) nX8_toEnd [.ref 80] (wi h M) (fun r M1 => r = nI (outF E 100 0 V) ∧ ∃ V1, MSt V1 M1 ∧ Kp V V1 ∧ ZV V1 ∧ FS M M1) := by
  intro d E V h M B C S hE hW hEW hz K hK hK2 hB hB2
  refine Ex.of mm_X8_toEnd (Nat.le_of_ble_eq_true rfl) fun w κ X hk hnm => ?_
  refine r_iconst (pc := 0) (v := (nI 0)) X dX8_toEnd_0 (by decide) ?_
  refine r_istore_n (pc := 1) X dX8_toEnd_1 (Nat.le_of_ble_eq_true rfl) ?_
  exact l_toe d C hEW hK2 X (fun M1 V1 s k z f => ⟨⟨_, M1, rfl, rfl, rfl, V1, s, k, z, f⟩, rfl⟩) 100 0 V M B _ (by omega) (by omega) S hE hW hz Kp.rf hK hB hB2 FS.rf rfl
