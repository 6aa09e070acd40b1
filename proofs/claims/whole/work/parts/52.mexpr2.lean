/-! the reference's expressions: signs between, and ends -/
theorem np_ne {k : Nat} (h : k < 1000) : ¬ nI (k + 1) = 0 := fun z => np_le h (by rw [z]; exact Int32.le_refl _)
theorem PSt.pop {T : TX} {G : GP} {p : Nat} {cs W : List Nat} {c : Nat} {M M1 : Mem} (S : PSt T G p cs (c :: W) M) (hb : ∀ b, b ≠ 80 → M1 b = M b) (h80 : ∀ j, j ≠ 14 → j ≠ 25 → j ≠ 26 → M1 80 j = M 80 j) (h14 : M1 80 14 = nI (p + 1)) (h25 : M1 80 25 = nI W.length) (h26 : M1 80 26 = nI (opn W)) (hp : p < T.1) : PSt T G (p + 1) cs W M1 := by
  have k := S.k
  have n1 : cs.length + (W.length + 1) + G.2.1 ≤ p := S.n.1
  exact ⟨⟨⟨(h80 13 (by omega) (by omega) (by omega)).trans S.m.fe, S.m.n100, fun i hi => by rw [hb 87 (by omega)]; exact S.m.1.2.2 i hi⟩, h14, hp⟩, ⟨(h80 24 (by omega) (by omega) (by omega)).trans S.ss, h25, h26⟩, ⟨by omega, S.2.2.1.2⟩, fun i hi => by rw [hb 93 (by omega)]; exact S.2.2.2.1 i hi, S.w.2.kept (fun i hi => by rw [hb 94 (by omega)]),
    ⟨fun b a1 a2 a3 a4 => (hb b a1).trans (k.1 b a1 a2 a3 a4), fun j a1 a2 a3 a4 a5 => (h80 j a1 a4 a5).trans (k.2.1 j a1 a2 a3 a4 a5), fun i hi => by rw [hb 93 (by omega)]; exact k.2.2.1 i hi, fun i hi => by rw [hb 92 (by omega)]; exact k.2.2.2 i hi⟩⟩
theorem PSt.too {T : TX} {G : GP} {p : Nat} {cs W : List Nat} {M : Mem} (S : PSt T G p cs W M) {x : Int32} : PSt T G p cs W (mU M 92 (upd (M 92) G.2.2.1 x)) := by
  have k := S.k
  have b0 : ∀ b, b ≠ 92 → mU M 92 (upd (M 92) G.2.2.1 x) b = M b := fun b hb => mU_ne hb
  refine ⟨S.m.kept (by rw [b0 80 (by omega)]) (by rw [b0 80 (by omega)]) (b0 87 (by omega)), ⟨?_, ?_, ?_⟩, S.2.2.1, fun i hi => ?_, S.w.kept (fun i hi => by rw [b0 94 (by omega)]), ⟨fun b a1 a2 a3 a4 => (b0 b a2).trans (k.1 b a1 a2 a3 a4), fun j a1 a2 a3 a4 a5 => ?_, fun i hi => ?_, fun i hi => ?_⟩⟩
  · rw [b0 80 (by omega)]; exact S.ss
  · rw [b0 80 (by omega)]; exact S.wl
  · rw [b0 80 (by omega)]; exact S.op
  · rw [b0 93 (by omega)]; exact S.2.2.2.1 i hi
  · rw [b0 80 (by omega)]; exact k.2.1 j a1 a2 a3 a4 a5
  · rw [b0 93 (by omega)]; exact k.2.2.1 i hi
  · rw [mU_eq, pk_un hi]; exact k.2.2.2 i hi
set_option maxRecDepth 10000 in
set_option maxHeartbeats 4000000 in
theorem l_mop : ∀ (d : Nat) {h : hp_T} {M : Mem} {T : TX} {G : GP} {p : Nat} {cs W : List Nat} (C : CS h) (S : PSt T G p cs W M) {g : Nat} (hc : g = 38 ∨ g = 124) (ec : aheadN T p = g) {z : Option Value} {w : wc_T} {κ : cx_T} {Φ : Option Value → hp_T → Prop} (X : CX w κ (d + 4) 8 cX8_takesE 4 (some .boolean) Φ) (hT : ∀ M1 z1, PSt T G (p + 1) (seC g W cs) (g :: seW g W) M1 → GG w κ 22 [some (.ref 80), some (.int (nI G.2.2.1)), some (.int (nI 1)), z1] [] (wi h M1)), GG w κ 22 [some (.ref 80), some (.int (nI G.2.2.1)), some (.int (nI 0)), z] [] (wi h M) := by
  intro d h M T G p cs W C S g hc ec z w κ Φ X hT
  have ei : aheadI T p = nI g := (S.m.ah (by omega)).mpr ec
  have hp : p < T.1 := aheadN_lt ec (by omega)
  refine r_aload_n (pc := 22) X dX8_takesE_22 rfl ?_
  refine r_c0_0P (pc := 23) X rfl dX8_takesE_23 tc_8_258 mm_X8_next (kc_80 C) rfl rfl (m_next (d + 3) C S.m) (Nat.le_of_ble_eq_true rfl) ?_
  rw [ei]
  refine r_istore_n (pc := 26) X dX8_takesE_26 (Nat.le_of_ble_eq_true rfl) ?_
  refine r_iload_n (pc := 27) X dX8_takesE_27 rfl ?_
  refine r_if_eq (pc := 28) X dX8_takesE_28 (tgt := 110) (by decide) (fun c28 => ?_) (fun c28 => ?_)
  · refine r_iload_n (pc := 110) X dX8_takesE_110 rfl ?_
    refine r_bipush (pc := 111) (v := (nI 38)) X dX8_takesE_111 (by decide) ?_
    refine r_icmp_eqN (pc := 113) X dX8_takesE_113 (tgt := 122) (by decide) (by omega) (by omega) (fun c113 => ?_) (fun c113 => ?_)
    · refine r_aload_n (pc := 122) X dX8_takesE_122 rfl ?_
      refine r_iload_n (pc := 123) X dX8_takesE_123 rfl ?_
      refine r_c0_1VW (pc := 124) X rfl dX8_takesE_124 tc_8_284 mm_X8_settle (kc_80 C) rfl rfl (m_settle (d + 2) C (by omega) S) (Nat.le_of_ble_eq_true rfl) (fun M124 q124 => ?_)
      have n3 := q124.n
      refine r_aload_n (pc := 127) X dX8_takesE_127 rfl ?_
      refine r_getr (pc := 128) X dX8_takesE_128 tf_8_80 rfl (kc_80 C) (rc_80_23 C) ?_
      refine r_aload_n (pc := 131) X dX8_takesE_131 rfl ?_
      refine r_getiW (pc := 132) X dX8_takesE_132 tf_8_86 rfl (kc_80 C) q124.wl ?_
      refine r_iload_n (pc := 135) X dX8_takesE_135 rfl ?_
      refine r_iastW (pc := 136) X dX8_takesE_136 (kc_94 C) rfl (show (seW g W).length < 101 by omega) (by omega) ?_
      refine r_aload_n (pc := 137) X dX8_takesE_137 rfl ?_
      refine r_dup (pc := 138) X dX8_takesE_138 rfl ?_
      refine r_getiW (pc := 139) X dX8_takesE_139 tf_8_86 rfl (kc_80 C) q124.wl ?_
      refine r_iconst (pc := 142) (v := (nI 1)) X dX8_takesE_142 (by decide) ?_
      refine r_iadd (pc := 143) X dX8_takesE_143 ?_
      refine r_putiW (pc := 144) X dX8_takesE_144 tf_8_86 rfl (Or.inl rfl) (kc_80 C) ⟨rfl, rfl⟩ ?_
      refine r_iconst (pc := 147) (v := (nI 1)) X dX8_takesE_147 (by decide) ?_
      refine r_istore_n (pc := 148) X dX8_takesE_148 (Nat.le_of_ble_eq_true rfl) ?_
      refine r_aload_n (pc := 149) X dX8_takesE_149 rfl ?_
      refine r_dup (pc := 150) X dX8_takesE_150 rfl ?_
      refine r_getiW (pc := 151) X dX8_takesE_151 tf_8_53 rfl (kc_80 C) q124.m.pl ?_
      refine r_iconst (pc := 154) (v := (nI 1)) X dX8_takesE_154 (by decide) ?_
      refine r_iadd (pc := 155) X dX8_takesE_155 ?_
      refine r_putiW (pc := 156) X dX8_takesE_156 tf_8_53 rfl (Or.inl rfl) (kc_80 C) ⟨rfl, rfl⟩ ?_
      refine r_goto (pc := 159) X dX8_takesE_159 (tgt := 22) (by decide) ?_
      refine hT _ _ (q124.push (c := g) ?_ ?_ ?_ ?_ ?_ ?_ (by omega) hp)
      · rw [mU_ne (by omega), mU_ne (by omega), mU_eq]
      · intro b a1 a2; rw [mU_ne a1, mU_ne a1, mU_ne a2]
      · intro j a1 a2 a3; rw [mU_eq, pk_un a1, mU_eq, pk_un a2, mU_ne (by omega)]
      · rw [mU_eq, pk_us]; exact nI_add _ _
      · rw [mU_eq, pk_un (by omega), mU_eq, pk_us]; exact nI_add _ _
      · rw [mU_eq, pk_un (by omega), mU_eq, pk_un (by omega), mU_ne (by omega)]; exact q124.op.trans (congrArg nI (show opn (seW g W) = opn (g :: seW g W) from (if_neg (by omega)).symm))
    · refine r_iload_n (pc := 116) X dX8_takesE_116 rfl ?_
      refine r_bipush (pc := 117) (v := (nI 124)) X dX8_takesE_117 (by decide) ?_
      refine r_icmp_neN (pc := 119) X dX8_takesE_119 (tgt := 162) (by decide) (by omega) (by omega) (fun c119 => ?_) (fun c119 => ?_)
      · exact absurd hc (by omega)
      · refine r_aload_n (pc := 122) X dX8_takesE_122 rfl ?_
        refine r_iload_n (pc := 123) X dX8_takesE_123 rfl ?_
        refine r_c0_1VW (pc := 124) X rfl dX8_takesE_124 tc_8_284 mm_X8_settle (kc_80 C) rfl rfl (m_settle (d + 2) C (by omega) S) (Nat.le_of_ble_eq_true rfl) (fun M124 q124 => ?_)
        have n3 := q124.n
        refine r_aload_n (pc := 127) X dX8_takesE_127 rfl ?_
        refine r_getr (pc := 128) X dX8_takesE_128 tf_8_80 rfl (kc_80 C) (rc_80_23 C) ?_
        refine r_aload_n (pc := 131) X dX8_takesE_131 rfl ?_
        refine r_getiW (pc := 132) X dX8_takesE_132 tf_8_86 rfl (kc_80 C) q124.wl ?_
        refine r_iload_n (pc := 135) X dX8_takesE_135 rfl ?_
        refine r_iastW (pc := 136) X dX8_takesE_136 (kc_94 C) rfl (show (seW g W).length < 101 by omega) (by omega) ?_
        refine r_aload_n (pc := 137) X dX8_takesE_137 rfl ?_
        refine r_dup (pc := 138) X dX8_takesE_138 rfl ?_
        refine r_getiW (pc := 139) X dX8_takesE_139 tf_8_86 rfl (kc_80 C) q124.wl ?_
        refine r_iconst (pc := 142) (v := (nI 1)) X dX8_takesE_142 (by decide) ?_
        refine r_iadd (pc := 143) X dX8_takesE_143 ?_
        refine r_putiW (pc := 144) X dX8_takesE_144 tf_8_86 rfl (Or.inl rfl) (kc_80 C) ⟨rfl, rfl⟩ ?_
        refine r_iconst (pc := 147) (v := (nI 1)) X dX8_takesE_147 (by decide) ?_
        refine r_istore_n (pc := 148) X dX8_takesE_148 (Nat.le_of_ble_eq_true rfl) ?_
        refine r_aload_n (pc := 149) X dX8_takesE_149 rfl ?_
        refine r_dup (pc := 150) X dX8_takesE_150 rfl ?_
        refine r_getiW (pc := 151) X dX8_takesE_151 tf_8_53 rfl (kc_80 C) q124.m.pl ?_
        refine r_iconst (pc := 154) (v := (nI 1)) X dX8_takesE_154 (by decide) ?_
        refine r_iadd (pc := 155) X dX8_takesE_155 ?_
        refine r_putiW (pc := 156) X dX8_takesE_156 tf_8_53 rfl (Or.inl rfl) (kc_80 C) ⟨rfl, rfl⟩ ?_
        refine r_goto (pc := 159) X dX8_takesE_159 (tgt := 22) (by decide) ?_
        refine hT _ _ (q124.push (c := g) ?_ ?_ ?_ ?_ ?_ ?_ (by omega) hp)
        · rw [mU_ne (by omega), mU_ne (by omega), mU_eq]
        · intro b a1 a2; rw [mU_ne a1, mU_ne a1, mU_ne a2]
        · intro j a1 a2 a3; rw [mU_eq, pk_un a1, mU_eq, pk_un a2, mU_ne (by omega)]
        · rw [mU_eq, pk_us]; exact nI_add _ _
        · rw [mU_eq, pk_un (by omega), mU_eq, pk_us]; exact nI_add _ _
        · rw [mU_eq, pk_un (by omega), mU_eq, pk_un (by omega), mU_ne (by omega)]; exact q124.op.trans (congrArg nI (show opn (seW g W) = opn (g :: seW g W) from (if_neg (by omega)).symm))
  · exact (c28 (by decide)).elim
set_option maxRecDepth 10000 in
set_option maxHeartbeats 4000000 in
theorem l_mend0 : ∀ (d : Nat) {h : hp_T} {M : Mem} {T : TX} {G : GP} {p : Nat} {cs W : List Nat} (C : CS h) (S : PSt T G p cs W M) (hcc : G.2.2.1 < 60) (h1 : ¬ aheadN T p = 38) (h2 : ¬ aheadN T p = 124) (e0 : seW 124 W = []) {z : Option Value} {w : wc_T} {κ : cx_T} {Φ : Option Value → hp_T → Prop} (X : CX w κ (d + 4) 8 cX8_takesE 4 (some .boolean) Φ) (hT : ∀ M1, PSt T G p (seC 124 W cs) [] M1 → M1 92 G.2.2.1 = nI (G.1 + (seC 124 W cs).length) → Φ (some (.int (nI 1))) (wi h M1)), GG w κ 22 [some (.ref 80), some (.int (nI G.2.2.1)), some (.int (nI 0)), z] [] (wi h M) := by
  intro d h M T G p cs W C S hcc h1 h2 e0 z w κ Φ X hT
  refine r_aload_n (pc := 22) X dX8_takesE_22 rfl ?_
  refine r_c0_0P (pc := 23) X rfl dX8_takesE_23 tc_8_258 mm_X8_next (kc_80 C) rfl rfl (m_next (d + 3) C S.m) (Nat.le_of_ble_eq_true rfl) ?_
  refine r_istore_n (pc := 26) X dX8_takesE_26 (Nat.le_of_ble_eq_true rfl) ?_
  refine r_iload_n (pc := 27) X dX8_takesE_27 rfl ?_
  refine r_if_eq (pc := 28) X dX8_takesE_28 (tgt := 110) (by decide) (fun c28 => ?_) (fun c28 => ?_)
  · refine r_iload_n (pc := 110) X dX8_takesE_110 rfl ?_
    refine r_bipush (pc := 111) (v := (nI 38)) X dX8_takesE_111 (by decide) ?_
    refine r_icmp_eq (pc := 113) X dX8_takesE_113 (tgt := 122) (by decide) (fun c113 => ?_) (fun c113 => ?_)
    · exact absurd ((S.m.ah (by omega)).mp c113) h1
    · refine r_iload_n (pc := 116) X dX8_takesE_116 rfl ?_
      refine r_bipush (pc := 117) (v := (nI 124)) X dX8_takesE_117 (by decide) ?_
      refine r_icmp_ne (pc := 119) X dX8_takesE_119 (tgt := 162) (by decide) (fun c119 => ?_) (fun c119 => ?_)
      · refine r_aload_n (pc := 162) X dX8_takesE_162 rfl ?_
        refine r_bipush (pc := 163) (v := (nI 124)) X dX8_takesE_163 (by decide) ?_
        refine r_c0_1VW (pc := 165) X rfl dX8_takesE_165 tc_8_284 mm_X8_settle (kc_80 C) rfl rfl (m_settle (d + 2) C (g := 124) (by omega) S) (Nat.le_of_ble_eq_true rfl) (fun M165 q165 => ?_)
        rw [e0] at q165
        refine r_aload_n (pc := 168) X dX8_takesE_168 rfl ?_
        refine r_getr (pc := 169) X dX8_takesE_169 tf_8_74 rfl (kc_80 C) (rc_80_21 C) ?_
        refine r_iload_n (pc := 172) X dX8_takesE_172 rfl ?_
        refine r_aload_n (pc := 173) X dX8_takesE_173 rfl ?_
        refine r_getiW (pc := 174) X dX8_takesE_174 tf_8_83 rfl (kc_80 C) q165.ss ?_
        refine r_iastW (pc := 177) X dX8_takesE_177 (kc_92 C) rfl (show G.2.2.1 < 60 by omega) (by omega) ?_
        refine r_aload_n (pc := 178) X dX8_takesE_178 rfl ?_
        refine r_getiW (pc := 179) X dX8_takesE_179 tf_8_86 rfl (kc_80 C) (show M165 80 25 = nI 0 from q165.wl) ?_
        refine r_if_ne (pc := 182) X dX8_takesE_182 (tgt := 187) (by decide) (fun c182 => ?_) (fun c182 => ?_)
        · exact (c182 (by decide)).elim
        · refine r_iconst (pc := 185) (v := (nI 1)) X dX8_takesE_185 (by decide) ?_
          refine r_iret (pc := 186) X dX8_takesE_186 rfl rfl ?_
          exact hT _ q165.too (by rw [mU_eq, pk_us])
      · exact absurd ((S.m.ah (by omega)).mp c119) h2
  · exact (c28 (by decide)).elim
set_option maxRecDepth 10000 in
set_option maxHeartbeats 4000000 in
theorem l_mend1 : ∀ (d : Nat) {h : hp_T} {M : Mem} {T : TX} {G : GP} {p : Nat} {cs W : List Nat} (C : CS h) (S : PSt T G p cs W M) (hcc : G.2.2.1 < 60) (h1 : ¬ aheadN T p = 38) (h2 : ¬ aheadN T p = 124) {R : List Nat} (e0 : seW 124 W = 40 :: R) {z : Option Value} {w : wc_T} {κ : cx_T} {Φ : Option Value → hp_T → Prop} (X : CX w κ (d + 4) 8 cX8_takesE 4 (some .boolean) Φ) (hT : aheadN T p = 41 → ∀ M1 z1, PSt T G (p + 1) (stC R (seC 124 W cs)) (stW R) M1 → GG w κ 22 [some (.ref 80), some (.int (nI G.2.2.1)), some (.int (nI 0)), z1] [] (wi h M1)) (hF : ¬ aheadN T p = 41 → ∀ M1, MtS T p M1 → PK G M1 → Φ (some (.int (nI 0))) (wi h M1)), GG w κ 22 [some (.ref 80), some (.int (nI G.2.2.1)), some (.int (nI 0)), z] [] (wi h M) := by
  intro d h M T G p cs W C S hcc h1 h2 R e0 z w κ Φ X hT hF
  refine r_aload_n (pc := 22) X dX8_takesE_22 rfl ?_
  refine r_c0_0P (pc := 23) X rfl dX8_takesE_23 tc_8_258 mm_X8_next (kc_80 C) rfl rfl (m_next (d + 3) C S.m) (Nat.le_of_ble_eq_true rfl) ?_
  refine r_istore_n (pc := 26) X dX8_takesE_26 (Nat.le_of_ble_eq_true rfl) ?_
  refine r_iload_n (pc := 27) X dX8_takesE_27 rfl ?_
  refine r_if_eq (pc := 28) X dX8_takesE_28 (tgt := 110) (by decide) (fun c28 => ?_) (fun c28 => ?_)
  · refine r_iload_n (pc := 110) X dX8_takesE_110 rfl ?_
    refine r_bipush (pc := 111) (v := (nI 38)) X dX8_takesE_111 (by decide) ?_
    refine r_icmp_eq (pc := 113) X dX8_takesE_113 (tgt := 122) (by decide) (fun c113 => ?_) (fun c113 => ?_)
    · exact absurd ((S.m.ah (by omega)).mp c113) h1
    · refine r_iload_n (pc := 116) X dX8_takesE_116 rfl ?_
      refine r_bipush (pc := 117) (v := (nI 124)) X dX8_takesE_117 (by decide) ?_
      refine r_icmp_ne (pc := 119) X dX8_takesE_119 (tgt := 162) (by decide) (fun c119 => ?_) (fun c119 => ?_)
      · refine r_aload_n (pc := 162) X dX8_takesE_162 rfl ?_
        refine r_bipush (pc := 163) (v := (nI 124)) X dX8_takesE_163 (by decide) ?_
        refine r_c0_1VW (pc := 165) X rfl dX8_takesE_165 tc_8_284 mm_X8_settle (kc_80 C) rfl rfl (m_settle (d + 2) C (g := 124) (by omega) S) (Nat.le_of_ble_eq_true rfl) (fun M165 q165 => ?_)
        rw [e0] at q165
        have n3 : (seC 124 W cs).length + (R.length + 1) + G.2.1 ≤ p := q165.n.1
        have n4 := q165.n
        have h26 : M165 80 26 = nI (opn R + 1) := q165.op.trans (congrArg nI (show opn (40 :: R) = opn R + 1 from if_pos (Or.inr rfl)))
        have h25 : M165 80 25 = nI (R.length + 1) := q165.wl
        have S3 := q165.too (x := nI (G.1 + (seC 124 W cs).length))
        refine r_aload_n (pc := 168) X dX8_takesE_168 rfl ?_
        refine r_getr (pc := 169) X dX8_takesE_169 tf_8_74 rfl (kc_80 C) (rc_80_21 C) ?_
        refine r_iload_n (pc := 172) X dX8_takesE_172 rfl ?_
        refine r_aload_n (pc := 173) X dX8_takesE_173 rfl ?_
        refine r_getiW (pc := 174) X dX8_takesE_174 tf_8_83 rfl (kc_80 C) q165.ss ?_
        refine r_iastW (pc := 177) X dX8_takesE_177 (kc_92 C) rfl (show G.2.2.1 < 60 by omega) (by omega) ?_
        refine r_aload_n (pc := 178) X dX8_takesE_178 rfl ?_
        refine r_getiW (pc := 179) X dX8_takesE_179 tf_8_86 rfl (kc_80 C) h25 ?_
        refine r_if_ne (pc := 182) X dX8_takesE_182 (tgt := 187) (by decide) (fun c182 => ?_) (fun c182 => ?_)
        · refine r_iload_n (pc := 187) X dX8_takesE_187 rfl ?_
          refine r_bipush (pc := 188) (v := (nI 41)) X dX8_takesE_188 (by decide) ?_
          refine r_icmp_eq (pc := 190) X dX8_takesE_190 (tgt := 195) (by decide) (fun c190 => ?_) (fun c190 => ?_)
          · have e41 : aheadN T p = 41 := (S.m.ah (by omega)).mp c190
            have hp : p < T.1 := aheadN_lt e41 (by omega)
            refine r_aload_n (pc := 195) X dX8_takesE_195 rfl ?_
            refine r_dup (pc := 196) X dX8_takesE_196 rfl ?_
            refine r_getiW (pc := 197) X dX8_takesE_197 tf_8_86 rfl (kc_80 C) h25 ?_
            refine r_iconst (pc := 200) (v := (nI 1)) X dX8_takesE_200 (by decide) ?_
            refine r_isub (pc := 201) X dX8_takesE_201 ?_
            refine r_putiW (pc := 202) X dX8_takesE_202 tf_8_86 rfl (Or.inl rfl) (kc_80 C) ⟨rfl, rfl⟩ ?_
            refine r_aload_n (pc := 205) X dX8_takesE_205 rfl ?_
            refine r_dup (pc := 206) X dX8_takesE_206 rfl ?_
            refine r_getiW (pc := 207) X dX8_takesE_207 tf_8_89 rfl (kc_80 C) h26 ?_
            refine r_iconst (pc := 210) (v := (nI 1)) X dX8_takesE_210 (by decide) ?_
            refine r_isub (pc := 211) X dX8_takesE_211 ?_
            refine r_putiW (pc := 212) X dX8_takesE_212 tf_8_89 rfl (Or.inl rfl) (kc_80 C) ⟨rfl, rfl⟩ ?_
            refine r_aload_n (pc := 215) X dX8_takesE_215 rfl ?_
            refine r_dup (pc := 216) X dX8_takesE_216 rfl ?_
            refine r_getiW (pc := 217) X dX8_takesE_217 tf_8_53 rfl (kc_80 C) q165.m.pl ?_
            refine r_iconst (pc := 220) (v := (nI 1)) X dX8_takesE_220 (by decide) ?_
            refine r_iadd (pc := 221) X dX8_takesE_221 ?_
            refine r_putiW (pc := 222) X dX8_takesE_222 tf_8_53 rfl (Or.inl rfl) (kc_80 C) ⟨rfl, rfl⟩ ?_
            refine r_aload_n (pc := 225) X dX8_takesE_225 rfl ?_
            refine r_c0_0VW (pc := 226) X rfl dX8_takesE_226 tc_8_278 mm_X8_whole (kc_80 C) rfl rfl (m_whole (d + 2) C (S3.pop (fun b a1 => by rw [mU_ne a1, mU_ne a1, mU_ne a1]) (fun j a1 a2 a3 => by rw [mU_eq, pk_un a1, mU_eq, pk_un a3, mU_eq, pk_un a2]) (by rw [mU_eq, pk_us]; exact nI_add _ _) (by rw [mU_eq, pk_un (by omega), mU_eq, pk_un (by omega), mU_eq, pk_us, nI_subn (by omega), Nat.add_sub_cancel]) (by rw [mU_eq, pk_un (by omega), mU_eq, pk_us, nI_subn (by omega), Nat.add_sub_cancel]) hp)) (Nat.le_of_ble_eq_true rfl) (fun M226 q226 => ?_)
            refine r_goto (pc := 229) X dX8_takesE_229 (tgt := 22) (by decide) ?_
            exact hT e41 _ _ q226
          · refine r_iconst (pc := 193) (v := (nI 0)) X dX8_takesE_193 (by decide) ?_
            refine r_iret (pc := 194) X dX8_takesE_194 rfl rfl ?_
            exact hF (fun z => c190 ((S.m.ah (by omega)).mpr z)) _ S3.m S3.k
        · exact absurd c182 (np_ne (by omega))
      · exact absurd ((S.m.ah (by omega)).mp c119) h2
  · exact (c28 (by decide)).elim
