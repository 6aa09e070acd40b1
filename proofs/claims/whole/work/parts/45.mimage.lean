/-! the reference's image -/
abbrev CPS : Type := List (Nat × Nat)
def cpS : CPS → Nat → Mem → Mem
  | [], _, M => M
  | q :: r, k, M => cpS r k (mU M q.1 (upd (M q.1) k (M q.2 k)))
def okP : CPS → Prop
  | [] => True
  | q :: r => (∀ p, p ∈ r → p.1 ≠ q.1 ∧ p.2 ≠ q.1) ∧ okP r
theorem cp_step {k : Nat} : ∀ (ps : CPS) (M : Mem), okP ps → (∀ q, q ∈ ps → cpS ps k M q.1 = upd (M q.1) k (M q.2 k)) ∧ ∀ b, (∀ q, q ∈ ps → b ≠ q.1) → cpS ps k M b = M b := by
  intro ps
  induction ps with
  | nil => intro M _; exact ⟨fun q hq => (by cases hq), fun b _ => rfl⟩
  | cons p r ih =>
    intro M ho
    obtain ⟨i1, i2⟩ := ih (mU M p.1 (upd (M p.1) k (M p.2 k))) ho.2
    refine ⟨fun q hq => ?_, fun b hb => ?_⟩
    · rcases List.mem_cons.mp hq with e | e
      · subst e
        refine (i2 q.1 (fun y hy z => (ho.1 y hy).1 z.symm)).trans ?_
        exact mU_eq
      · refine (i1 q e).trans ?_
        rw [mU_ne (ho.1 q e).1, mU_ne (ho.1 q e).2]
    · refine (i2 b (fun y hy => hb y (List.mem_cons_of_mem _ hy))).trans ?_
      exact mU_ne (hb p List.mem_cons_self)
def CpK (ps : CPS) (k : Nat) (M0 M : Mem) : Prop := (∀ q, q ∈ ps → M q.1 = fun i => if i < k then M0 q.2 i else M0 q.1 i) ∧ ∀ b, (∀ q, q ∈ ps → b ≠ q.1) → M b = M0 b
theorem CpK.rf {ps : CPS} {M : Mem} : CpK ps 0 M M := ⟨fun q _ => (funext fun i => (if_neg (Nat.not_lt_zero i)).symm), fun b _ => rfl⟩
theorem CpK.s {ps : CPS} {k : Nat} {M0 M : Mem} (c : CpK ps k M0 M) (ho : okP ps) (hd : ∀ a, a ∈ ps → ∀ b, b ∈ ps → a.2 ≠ b.1) : CpK ps (k + 1) M0 (cpS ps k M) := by
  obtain ⟨s1, s2⟩ := cp_step (k := k) ps M ho
  refine ⟨fun q hq => ?_, fun b hb => (s2 b hb).trans (c.2 b hb)⟩
  rw [s1 q hq, c.1 q hq, c.2 q.2 (fun y hy => hd q hq y hy)]
  funext i
  by_cases e : i = k
  · subst e
    rw [pk_us, if_pos (Nat.lt_succ_self _)]
  · rw [pk_un e]
    by_cases z : i < k
    · rw [if_pos z, if_pos (by omega)]
    · rw [if_neg z, if_neg (by omega)]
def ps_image0 : CPS := [(106, 81), (107, 82), (108, 83), (109, 84), (110, 85), (112, 100), (113, 101)]
theorem psk_image0 : okP ps_image0 ∧ ∀ a, a ∈ ps_image0 → ∀ b, b ∈ ps_image0 → a.2 ≠ b.1 := ⟨⟨by decide, ⟨by decide, ⟨by decide, ⟨by decide, ⟨by decide, ⟨by decide, ⟨by decide, trivial⟩⟩⟩⟩⟩⟩⟩, by decide⟩
set_option maxRecDepth 10000 in
set_option maxHeartbeats 4000000 in
theorem lc_image0 : ∀ (d : Nat) {h : hp_T} {M0 : Mem} (C : CS h) {w : wc_T} {κ : cx_T} {Φ : Option Value → hp_T → Prop} (X : CX w κ d 8 cX8_image 2 (some .int) Φ) (hT : ∀ M1 z, CpK ps_image0 6 M0 M1 → GG w κ 175 [some (.ref 80), z] [] (wi h M1)),
    ∀ (m k : Nat) (M : Mem), k + m = 6 → CpK ps_image0 k M0 M → GG w κ 79 [some (.ref 80), some (.int (nI k))] [] (wi h M) := by
  intro d h M0 C w κ Φ X hT m
  induction m with
  | zero =>
    intro k M hk c
    have e : k = 6 := by omega
    subst e
    refine r_iload_n (pc := 79) X dX8_image_79 rfl ?_
    refine r_bipush (pc := 80) (v := (nI 6)) X dX8_image_80 (by decide) ?_
    refine r_icmp_geN (pc := 82) X dX8_image_82 (tgt := 175) (by decide) (by omega) (by omega) (fun c82 => ?_) (fun c82 => ?_)
    · exact hT M _ c
    · exact absurd (Nat.le_refl _) c82
  | succ m ih =>
    intro k M hk c
    have hkN : k < 6 := by omega
    refine r_iload_n (pc := 79) X dX8_image_79 rfl ?_
    refine r_bipush (pc := 80) (v := (nI 6)) X dX8_image_80 (by decide) ?_
    refine r_icmp_geN (pc := 82) X dX8_image_82 (tgt := 175) (by decide) (by omega) (by omega) (fun c82 => ?_) (fun c82 => ?_)
    · exact absurd c82 (by omega)
    · refine r_aload_n (pc := 85) X dX8_image_85 rfl ?_
      refine r_getr (pc := 86) X dX8_image_86 tf_8_181 rfl (kc_80 C) (rc_80_56 C) ?_
      refine r_iload_n (pc := 89) X dX8_image_89 rfl ?_
      refine r_aload_n (pc := 90) X dX8_image_90 rfl ?_
      refine r_getr (pc := 91) X dX8_image_91 tf_8_25 rfl (kc_80 C) (rc_80_5 C) ?_
      refine r_iload_n (pc := 94) X dX8_image_94 rfl ?_
      refine r_ialdW (pc := 95) X dX8_image_95 (kc_81 C) rfl hkN (by omega) rfl ?_
      refine r_iastW (pc := 96) X dX8_image_96 (kc_106 C) rfl hkN (by omega) ?_
      refine r_aload_n (pc := 97) X dX8_image_97 rfl ?_
      refine r_getr (pc := 98) X dX8_image_98 tf_8_184 rfl (kc_80 C) (rc_80_57 C) ?_
      refine r_iload_n (pc := 101) X dX8_image_101 rfl ?_
      refine r_aload_n (pc := 102) X dX8_image_102 rfl ?_
      refine r_getr (pc := 103) X dX8_image_103 tf_8_29 rfl (kc_80 C) (rc_80_6 C) ?_
      refine r_iload_n (pc := 106) X dX8_image_106 rfl ?_
      refine r_ialdW (pc := 107) X dX8_image_107 (kc_82 C) rfl hkN (by omega) rfl ?_
      refine r_iastW (pc := 108) X dX8_image_108 (kc_107 C) rfl hkN (by omega) ?_
      refine r_aload_n (pc := 109) X dX8_image_109 rfl ?_
      refine r_getr (pc := 110) X dX8_image_110 tf_8_187 rfl (kc_80 C) (rc_80_58 C) ?_
      refine r_iload_n (pc := 113) X dX8_image_113 rfl ?_
      refine r_aload_n (pc := 114) X dX8_image_114 rfl ?_
      refine r_getr (pc := 115) X dX8_image_115 tf_8_32 rfl (kc_80 C) (rc_80_7 C) ?_
      refine r_iload_n (pc := 118) X dX8_image_118 rfl ?_
      refine r_ialdW (pc := 119) X dX8_image_119 (kc_83 C) rfl hkN (by omega) rfl ?_
      refine r_iastW (pc := 120) X dX8_image_120 (kc_108 C) rfl hkN (by omega) ?_
      refine r_aload_n (pc := 121) X dX8_image_121 rfl ?_
      refine r_getr (pc := 122) X dX8_image_122 tf_8_190 rfl (kc_80 C) (rc_80_59 C) ?_
      refine r_iload_n (pc := 125) X dX8_image_125 rfl ?_
      refine r_aload_n (pc := 126) X dX8_image_126 rfl ?_
      refine r_getr (pc := 127) X dX8_image_127 tf_8_35 rfl (kc_80 C) (rc_80_8 C) ?_
      refine r_iload_n (pc := 130) X dX8_image_130 rfl ?_
      refine r_ialdW (pc := 131) X dX8_image_131 (kc_84 C) rfl hkN (by omega) rfl ?_
      refine r_iastW (pc := 132) X dX8_image_132 (kc_109 C) rfl hkN (by omega) ?_
      refine r_aload_n (pc := 133) X dX8_image_133 rfl ?_
      refine r_getr (pc := 134) X dX8_image_134 tf_8_193 rfl (kc_80 C) (rc_80_60 C) ?_
      refine r_iload_n (pc := 137) X dX8_image_137 rfl ?_
      refine r_aload_n (pc := 138) X dX8_image_138 rfl ?_
      refine r_getr (pc := 139) X dX8_image_139 tf_8_38 rfl (kc_80 C) (rc_80_9 C) ?_
      refine r_iload_n (pc := 142) X dX8_image_142 rfl ?_
      refine r_ialdW (pc := 143) X dX8_image_143 (kc_85 C) rfl hkN (by omega) rfl ?_
      refine r_iastW (pc := 144) X dX8_image_144 (kc_110 C) rfl hkN (by omega) ?_
      refine r_aload_n (pc := 145) X dX8_image_145 rfl ?_
      refine r_getr (pc := 146) X dX8_image_146 tf_8_199 rfl (kc_80 C) (rc_80_62 C) ?_
      refine r_iload_n (pc := 149) X dX8_image_149 rfl ?_
      refine r_aload_n (pc := 150) X dX8_image_150 rfl ?_
      refine r_getr (pc := 151) X dX8_image_151 tf_8_126 rfl (kc_80 C) (rc_80_38 C) ?_
      refine r_iload_n (pc := 154) X dX8_image_154 rfl ?_
      refine r_ialdW (pc := 155) X dX8_image_155 (kc_100 C) rfl hkN (by omega) rfl ?_
      refine r_iastW (pc := 156) X dX8_image_156 (kc_112 C) rfl hkN (by omega) ?_
      refine r_aload_n (pc := 157) X dX8_image_157 rfl ?_
      refine r_getr (pc := 158) X dX8_image_158 tf_8_202 rfl (kc_80 C) (rc_80_63 C) ?_
      refine r_iload_n (pc := 161) X dX8_image_161 rfl ?_
      refine r_aload_n (pc := 162) X dX8_image_162 rfl ?_
      refine r_getr (pc := 163) X dX8_image_163 tf_8_129 rfl (kc_80 C) (rc_80_39 C) ?_
      refine r_iload_n (pc := 166) X dX8_image_166 rfl ?_
      refine r_ialdW (pc := 167) X dX8_image_167 (kc_101 C) rfl hkN (by omega) rfl ?_
      refine r_iastW (pc := 168) X dX8_image_168 (kc_113 C) rfl hkN (by omega) ?_
      refine r_iinc (pc := 169) X dX8_image_169 rfl (by first | exact nI_i1 _ | rfl) ?_
      refine r_goto (pc := 172) X dX8_image_172 (tgt := 79) (by decide) ?_
      exact ih (k + 1) _ (by omega) (c.s psk_image0.1 psk_image0.2)
def ps_image1 : CPS := [(111, 86)]
theorem psk_image1 : okP ps_image1 ∧ ∀ a, a ∈ ps_image1 → ∀ b, b ∈ ps_image1 → a.2 ≠ b.1 := ⟨⟨by decide, trivial⟩, by decide⟩
set_option maxRecDepth 10000 in
set_option maxHeartbeats 4000000 in
theorem lc_image1 : ∀ (d : Nat) {h : hp_T} {M0 : Mem} (C : CS h) {w : wc_T} {κ : cx_T} {Φ : Option Value → hp_T → Prop} (X : CX w κ d 8 cX8_image 2 (some .int) Φ) (hT : ∀ M1 z, CpK ps_image1 24 M0 M1 → GG w κ 201 [some (.ref 80), z] [] (wi h M1)),
    ∀ (m k : Nat) (M : Mem), k + m = 24 → CpK ps_image1 k M0 M → GG w κ 177 [some (.ref 80), some (.int (nI k))] [] (wi h M) := by
  intro d h M0 C w κ Φ X hT m
  induction m with
  | zero =>
    intro k M hk c
    have e : k = 24 := by omega
    subst e
    refine r_iload_n (pc := 177) X dX8_image_177 rfl ?_
    refine r_bipush (pc := 178) (v := (nI 24)) X dX8_image_178 (by decide) ?_
    refine r_icmp_geN (pc := 180) X dX8_image_180 (tgt := 201) (by decide) (by omega) (by omega) (fun c180 => ?_) (fun c180 => ?_)
    · exact hT M _ c
    · exact absurd (Nat.le_refl _) c180
  | succ m ih =>
    intro k M hk c
    have hkN : k < 24 := by omega
    refine r_iload_n (pc := 177) X dX8_image_177 rfl ?_
    refine r_bipush (pc := 178) (v := (nI 24)) X dX8_image_178 (by decide) ?_
    refine r_icmp_geN (pc := 180) X dX8_image_180 (tgt := 201) (by decide) (by omega) (by omega) (fun c180 => ?_) (fun c180 => ?_)
    · exact absurd c180 (by omega)
    · refine r_aload_n (pc := 183) X dX8_image_183 rfl ?_
      refine r_getr (pc := 184) X dX8_image_184 tf_8_196 rfl (kc_80 C) (rc_80_61 C) ?_
      refine r_iload_n (pc := 187) X dX8_image_187 rfl ?_
      refine r_aload_n (pc := 188) X dX8_image_188 rfl ?_
      refine r_getr (pc := 189) X dX8_image_189 tf_8_41 rfl (kc_80 C) (rc_80_10 C) ?_
      refine r_iload_n (pc := 192) X dX8_image_192 rfl ?_
      refine r_ialdW (pc := 193) X dX8_image_193 (kc_86 C) rfl hkN (by omega) rfl ?_
      refine r_iastW (pc := 194) X dX8_image_194 (kc_111 C) rfl hkN (by omega) ?_
      refine r_iinc (pc := 195) X dX8_image_195 rfl (by first | exact nI_i1 _ | rfl) ?_
      refine r_goto (pc := 198) X dX8_image_198 (tgt := 177) (by decide) ?_
      exact ih (k + 1) _ (by omega) (c.s psk_image1.1 psk_image1.2)
def ps_image2 : CPS := [(114, 102), (115, 103)]
theorem psk_image2 : okP ps_image2 ∧ ∀ a, a ∈ ps_image2 → ∀ b, b ∈ ps_image2 → a.2 ≠ b.1 := ⟨⟨by decide, ⟨by decide, trivial⟩⟩, by decide⟩
set_option maxRecDepth 10000 in
set_option maxHeartbeats 4000000 in
theorem lc_image2 : ∀ (d : Nat) {h : hp_T} {M0 : Mem} (C : CS h) {w : wc_T} {κ : cx_T} {Φ : Option Value → hp_T → Prop} (X : CX w κ d 8 cX8_image 2 (some .int) Φ) (hT : ∀ M1 z, CpK ps_image2 10 M0 M1 → GG w κ 239 [some (.ref 80), z] [] (wi h M1)),
    ∀ (m k : Nat) (M : Mem), k + m = 10 → CpK ps_image2 k M0 M → GG w κ 203 [some (.ref 80), some (.int (nI k))] [] (wi h M) := by
  intro d h M0 C w κ Φ X hT m
  induction m with
  | zero =>
    intro k M hk c
    have e : k = 10 := by omega
    subst e
    refine r_iload_n (pc := 203) X dX8_image_203 rfl ?_
    refine r_bipush (pc := 204) (v := (nI 10)) X dX8_image_204 (by decide) ?_
    refine r_icmp_geN (pc := 206) X dX8_image_206 (tgt := 239) (by decide) (by omega) (by omega) (fun c206 => ?_) (fun c206 => ?_)
    · exact hT M _ c
    · exact absurd (Nat.le_refl _) c206
  | succ m ih =>
    intro k M hk c
    have hkN : k < 10 := by omega
    refine r_iload_n (pc := 203) X dX8_image_203 rfl ?_
    refine r_bipush (pc := 204) (v := (nI 10)) X dX8_image_204 (by decide) ?_
    refine r_icmp_geN (pc := 206) X dX8_image_206 (tgt := 239) (by decide) (by omega) (by omega) (fun c206 => ?_) (fun c206 => ?_)
    · exact absurd c206 (by omega)
    · refine r_aload_n (pc := 209) X dX8_image_209 rfl ?_
      refine r_getr (pc := 210) X dX8_image_210 tf_8_205 rfl (kc_80 C) (rc_80_64 C) ?_
      refine r_iload_n (pc := 213) X dX8_image_213 rfl ?_
      refine r_aload_n (pc := 214) X dX8_image_214 rfl ?_
      refine r_getr (pc := 215) X dX8_image_215 tf_8_138 rfl (kc_80 C) (rc_80_42 C) ?_
      refine r_iload_n (pc := 218) X dX8_image_218 rfl ?_
      refine r_ialdW (pc := 219) X dX8_image_219 (kc_102 C) rfl hkN (by omega) rfl ?_
      refine r_iastW (pc := 220) X dX8_image_220 (kc_114 C) rfl hkN (by omega) ?_
      refine r_aload_n (pc := 221) X dX8_image_221 rfl ?_
      refine r_getr (pc := 222) X dX8_image_222 tf_8_208 rfl (kc_80 C) (rc_80_65 C) ?_
      refine r_iload_n (pc := 225) X dX8_image_225 rfl ?_
      refine r_aload_n (pc := 226) X dX8_image_226 rfl ?_
      refine r_getr (pc := 227) X dX8_image_227 tf_8_141 rfl (kc_80 C) (rc_80_43 C) ?_
      refine r_iload_n (pc := 230) X dX8_image_230 rfl ?_
      refine r_ialdW (pc := 231) X dX8_image_231 (kc_103 C) rfl hkN (by omega) rfl ?_
      refine r_iastW (pc := 232) X dX8_image_232 (kc_115 C) rfl hkN (by omega) ?_
      refine r_iinc (pc := 233) X dX8_image_233 rfl (by first | exact nI_i1 _ | rfl) ?_
      refine r_goto (pc := 236) X dX8_image_236 (tgt := 203) (by decide) ?_
      exact ih (k + 1) _ (by omega) (c.s psk_image2.1 psk_image2.2)
def ps_image3 : CPS := [(116, 104), (117, 105)]
theorem psk_image3 : okP ps_image3 ∧ ∀ a, a ∈ ps_image3 → ∀ b, b ∈ ps_image3 → a.2 ≠ b.1 := ⟨⟨by decide, ⟨by decide, trivial⟩⟩, by decide⟩
set_option maxRecDepth 10000 in
set_option maxHeartbeats 4000000 in
theorem lc_image3 : ∀ (d : Nat) {h : hp_T} {M0 : Mem} (C : CS h) {w : wc_T} {κ : cx_T} {Φ : Option Value → hp_T → Prop} (X : CX w κ d 8 cX8_image 2 (some .int) Φ) (hT : ∀ M1 z, CpK ps_image3 8 M0 M1 → GG w κ 277 [some (.ref 80), z] [] (wi h M1)),
    ∀ (m k : Nat) (M : Mem), k + m = 8 → CpK ps_image3 k M0 M → GG w κ 241 [some (.ref 80), some (.int (nI k))] [] (wi h M) := by
  intro d h M0 C w κ Φ X hT m
  induction m with
  | zero =>
    intro k M hk c
    have e : k = 8 := by omega
    subst e
    refine r_iload_n (pc := 241) X dX8_image_241 rfl ?_
    refine r_bipush (pc := 242) (v := (nI 8)) X dX8_image_242 (by decide) ?_
    refine r_icmp_geN (pc := 244) X dX8_image_244 (tgt := 277) (by decide) (by omega) (by omega) (fun c244 => ?_) (fun c244 => ?_)
    · exact hT M _ c
    · exact absurd (Nat.le_refl _) c244
  | succ m ih =>
    intro k M hk c
    have hkN : k < 8 := by omega
    refine r_iload_n (pc := 241) X dX8_image_241 rfl ?_
    refine r_bipush (pc := 242) (v := (nI 8)) X dX8_image_242 (by decide) ?_
    refine r_icmp_geN (pc := 244) X dX8_image_244 (tgt := 277) (by decide) (by omega) (by omega) (fun c244 => ?_) (fun c244 => ?_)
    · exact absurd c244 (by omega)
    · refine r_aload_n (pc := 247) X dX8_image_247 rfl ?_
      refine r_getr (pc := 248) X dX8_image_248 tf_8_211 rfl (kc_80 C) (rc_80_66 C) ?_
      refine r_iload_n (pc := 251) X dX8_image_251 rfl ?_
      refine r_aload_n (pc := 252) X dX8_image_252 rfl ?_
      refine r_getr (pc := 253) X dX8_image_253 tf_8_144 rfl (kc_80 C) (rc_80_44 C) ?_
      refine r_iload_n (pc := 256) X dX8_image_256 rfl ?_
      refine r_ialdW (pc := 257) X dX8_image_257 (kc_104 C) rfl hkN (by omega) rfl ?_
      refine r_iastW (pc := 258) X dX8_image_258 (kc_116 C) rfl hkN (by omega) ?_
      refine r_aload_n (pc := 259) X dX8_image_259 rfl ?_
      refine r_getr (pc := 260) X dX8_image_260 tf_8_214 rfl (kc_80 C) (rc_80_67 C) ?_
      refine r_iload_n (pc := 263) X dX8_image_263 rfl ?_
      refine r_aload_n (pc := 264) X dX8_image_264 rfl ?_
      refine r_getr (pc := 265) X dX8_image_265 tf_8_147 rfl (kc_80 C) (rc_80_45 C) ?_
      refine r_iload_n (pc := 268) X dX8_image_268 rfl ?_
      refine r_ialdW (pc := 269) X dX8_image_269 (kc_105 C) rfl hkN (by omega) rfl ?_
      refine r_iastW (pc := 270) X dX8_image_270 (kc_117 C) rfl hkN (by omega) ?_
      refine r_iinc (pc := 271) X dX8_image_271 rfl (by first | exact nI_i1 _ | rfl) ?_
      refine r_goto (pc := 274) X dX8_image_274 (tgt := 241) (by decide) ?_
      exact ih (k + 1) _ (by omega) (c.s psk_image3.1 psk_image3.2)
def ps_undo0 : CPS := [(81, 106), (82, 107), (83, 108), (84, 109), (85, 110), (100, 112), (101, 113)]
theorem psk_undo0 : okP ps_undo0 ∧ ∀ a, a ∈ ps_undo0 → ∀ b, b ∈ ps_undo0 → a.2 ≠ b.1 := ⟨⟨by decide, ⟨by decide, ⟨by decide, ⟨by decide, ⟨by decide, ⟨by decide, ⟨by decide, trivial⟩⟩⟩⟩⟩⟩⟩, by decide⟩
set_option maxRecDepth 10000 in
set_option maxHeartbeats 4000000 in
theorem lc_undo0 : ∀ (d : Nat) {h : hp_T} {M0 : Mem} (C : CS h) {w : wc_T} {κ : cx_T} {Φ : Option Value → hp_T → Prop} (X : CX w κ d 8 cX8_undo 2 (some .int) Φ) (hT : ∀ M1 z, CpK ps_undo0 6 M0 M1 → GG w κ 180 [some (.ref 80), z] [] (wi h M1)),
    ∀ (m k : Nat) (M : Mem), k + m = 6 → CpK ps_undo0 k M0 M → GG w κ 84 [some (.ref 80), some (.int (nI k))] [] (wi h M) := by
  intro d h M0 C w κ Φ X hT m
  induction m with
  | zero =>
    intro k M hk c
    have e : k = 6 := by omega
    subst e
    refine r_iload_n (pc := 84) X dX8_undo_84 rfl ?_
    refine r_bipush (pc := 85) (v := (nI 6)) X dX8_undo_85 (by decide) ?_
    refine r_icmp_geN (pc := 87) X dX8_undo_87 (tgt := 180) (by decide) (by omega) (by omega) (fun c87 => ?_) (fun c87 => ?_)
    · exact hT M _ c
    · exact absurd (Nat.le_refl _) c87
  | succ m ih =>
    intro k M hk c
    have hkN : k < 6 := by omega
    refine r_iload_n (pc := 84) X dX8_undo_84 rfl ?_
    refine r_bipush (pc := 85) (v := (nI 6)) X dX8_undo_85 (by decide) ?_
    refine r_icmp_geN (pc := 87) X dX8_undo_87 (tgt := 180) (by decide) (by omega) (by omega) (fun c87 => ?_) (fun c87 => ?_)
    · exact absurd c87 (by omega)
    · refine r_aload_n (pc := 90) X dX8_undo_90 rfl ?_
      refine r_getr (pc := 91) X dX8_undo_91 tf_8_25 rfl (kc_80 C) (rc_80_5 C) ?_
      refine r_iload_n (pc := 94) X dX8_undo_94 rfl ?_
      refine r_aload_n (pc := 95) X dX8_undo_95 rfl ?_
      refine r_getr (pc := 96) X dX8_undo_96 tf_8_181 rfl (kc_80 C) (rc_80_56 C) ?_
      refine r_iload_n (pc := 99) X dX8_undo_99 rfl ?_
      refine r_ialdW (pc := 100) X dX8_undo_100 (kc_106 C) rfl hkN (by omega) rfl ?_
      refine r_iastW (pc := 101) X dX8_undo_101 (kc_81 C) rfl hkN (by omega) ?_
      refine r_aload_n (pc := 102) X dX8_undo_102 rfl ?_
      refine r_getr (pc := 103) X dX8_undo_103 tf_8_29 rfl (kc_80 C) (rc_80_6 C) ?_
      refine r_iload_n (pc := 106) X dX8_undo_106 rfl ?_
      refine r_aload_n (pc := 107) X dX8_undo_107 rfl ?_
      refine r_getr (pc := 108) X dX8_undo_108 tf_8_184 rfl (kc_80 C) (rc_80_57 C) ?_
      refine r_iload_n (pc := 111) X dX8_undo_111 rfl ?_
      refine r_ialdW (pc := 112) X dX8_undo_112 (kc_107 C) rfl hkN (by omega) rfl ?_
      refine r_iastW (pc := 113) X dX8_undo_113 (kc_82 C) rfl hkN (by omega) ?_
      refine r_aload_n (pc := 114) X dX8_undo_114 rfl ?_
      refine r_getr (pc := 115) X dX8_undo_115 tf_8_32 rfl (kc_80 C) (rc_80_7 C) ?_
      refine r_iload_n (pc := 118) X dX8_undo_118 rfl ?_
      refine r_aload_n (pc := 119) X dX8_undo_119 rfl ?_
      refine r_getr (pc := 120) X dX8_undo_120 tf_8_187 rfl (kc_80 C) (rc_80_58 C) ?_
      refine r_iload_n (pc := 123) X dX8_undo_123 rfl ?_
      refine r_ialdW (pc := 124) X dX8_undo_124 (kc_108 C) rfl hkN (by omega) rfl ?_
      refine r_iastW (pc := 125) X dX8_undo_125 (kc_83 C) rfl hkN (by omega) ?_
      refine r_aload_n (pc := 126) X dX8_undo_126 rfl ?_
      refine r_getr (pc := 127) X dX8_undo_127 tf_8_35 rfl (kc_80 C) (rc_80_8 C) ?_
      refine r_iload_n (pc := 130) X dX8_undo_130 rfl ?_
      refine r_aload_n (pc := 131) X dX8_undo_131 rfl ?_
      refine r_getr (pc := 132) X dX8_undo_132 tf_8_190 rfl (kc_80 C) (rc_80_59 C) ?_
      refine r_iload_n (pc := 135) X dX8_undo_135 rfl ?_
      refine r_ialdW (pc := 136) X dX8_undo_136 (kc_109 C) rfl hkN (by omega) rfl ?_
      refine r_iastW (pc := 137) X dX8_undo_137 (kc_84 C) rfl hkN (by omega) ?_
      refine r_aload_n (pc := 138) X dX8_undo_138 rfl ?_
      refine r_getr (pc := 139) X dX8_undo_139 tf_8_38 rfl (kc_80 C) (rc_80_9 C) ?_
      refine r_iload_n (pc := 142) X dX8_undo_142 rfl ?_
      refine r_aload_n (pc := 143) X dX8_undo_143 rfl ?_
      refine r_getr (pc := 144) X dX8_undo_144 tf_8_193 rfl (kc_80 C) (rc_80_60 C) ?_
      refine r_iload_n (pc := 147) X dX8_undo_147 rfl ?_
      refine r_ialdW (pc := 148) X dX8_undo_148 (kc_110 C) rfl hkN (by omega) rfl ?_
      refine r_iastW (pc := 149) X dX8_undo_149 (kc_85 C) rfl hkN (by omega) ?_
      refine r_aload_n (pc := 150) X dX8_undo_150 rfl ?_
      refine r_getr (pc := 151) X dX8_undo_151 tf_8_126 rfl (kc_80 C) (rc_80_38 C) ?_
      refine r_iload_n (pc := 154) X dX8_undo_154 rfl ?_
      refine r_aload_n (pc := 155) X dX8_undo_155 rfl ?_
      refine r_getr (pc := 156) X dX8_undo_156 tf_8_199 rfl (kc_80 C) (rc_80_62 C) ?_
      refine r_iload_n (pc := 159) X dX8_undo_159 rfl ?_
      refine r_ialdW (pc := 160) X dX8_undo_160 (kc_112 C) rfl hkN (by omega) rfl ?_
      refine r_iastW (pc := 161) X dX8_undo_161 (kc_100 C) rfl hkN (by omega) ?_
      refine r_aload_n (pc := 162) X dX8_undo_162 rfl ?_
      refine r_getr (pc := 163) X dX8_undo_163 tf_8_129 rfl (kc_80 C) (rc_80_39 C) ?_
      refine r_iload_n (pc := 166) X dX8_undo_166 rfl ?_
      refine r_aload_n (pc := 167) X dX8_undo_167 rfl ?_
      refine r_getr (pc := 168) X dX8_undo_168 tf_8_202 rfl (kc_80 C) (rc_80_63 C) ?_
      refine r_iload_n (pc := 171) X dX8_undo_171 rfl ?_
      refine r_ialdW (pc := 172) X dX8_undo_172 (kc_113 C) rfl hkN (by omega) rfl ?_
      refine r_iastW (pc := 173) X dX8_undo_173 (kc_101 C) rfl hkN (by omega) ?_
      refine r_iinc (pc := 174) X dX8_undo_174 rfl (by first | exact nI_i1 _ | rfl) ?_
      refine r_goto (pc := 177) X dX8_undo_177 (tgt := 84) (by decide) ?_
      exact ih (k + 1) _ (by omega) (c.s psk_undo0.1 psk_undo0.2)
def ps_undo1 : CPS := [(86, 111)]
theorem psk_undo1 : okP ps_undo1 ∧ ∀ a, a ∈ ps_undo1 → ∀ b, b ∈ ps_undo1 → a.2 ≠ b.1 := ⟨⟨by decide, trivial⟩, by decide⟩
set_option maxRecDepth 10000 in
set_option maxHeartbeats 4000000 in
theorem lc_undo1 : ∀ (d : Nat) {h : hp_T} {M0 : Mem} (C : CS h) {w : wc_T} {κ : cx_T} {Φ : Option Value → hp_T → Prop} (X : CX w κ d 8 cX8_undo 2 (some .int) Φ) (hT : ∀ M1 z, CpK ps_undo1 24 M0 M1 → GG w κ 206 [some (.ref 80), z] [] (wi h M1)),
    ∀ (m k : Nat) (M : Mem), k + m = 24 → CpK ps_undo1 k M0 M → GG w κ 182 [some (.ref 80), some (.int (nI k))] [] (wi h M) := by
  intro d h M0 C w κ Φ X hT m
  induction m with
  | zero =>
    intro k M hk c
    have e : k = 24 := by omega
    subst e
    refine r_iload_n (pc := 182) X dX8_undo_182 rfl ?_
    refine r_bipush (pc := 183) (v := (nI 24)) X dX8_undo_183 (by decide) ?_
    refine r_icmp_geN (pc := 185) X dX8_undo_185 (tgt := 206) (by decide) (by omega) (by omega) (fun c185 => ?_) (fun c185 => ?_)
    · exact hT M _ c
    · exact absurd (Nat.le_refl _) c185
  | succ m ih =>
    intro k M hk c
    have hkN : k < 24 := by omega
    refine r_iload_n (pc := 182) X dX8_undo_182 rfl ?_
    refine r_bipush (pc := 183) (v := (nI 24)) X dX8_undo_183 (by decide) ?_
    refine r_icmp_geN (pc := 185) X dX8_undo_185 (tgt := 206) (by decide) (by omega) (by omega) (fun c185 => ?_) (fun c185 => ?_)
    · exact absurd c185 (by omega)
    · refine r_aload_n (pc := 188) X dX8_undo_188 rfl ?_
      refine r_getr (pc := 189) X dX8_undo_189 tf_8_41 rfl (kc_80 C) (rc_80_10 C) ?_
      refine r_iload_n (pc := 192) X dX8_undo_192 rfl ?_
      refine r_aload_n (pc := 193) X dX8_undo_193 rfl ?_
      refine r_getr (pc := 194) X dX8_undo_194 tf_8_196 rfl (kc_80 C) (rc_80_61 C) ?_
      refine r_iload_n (pc := 197) X dX8_undo_197 rfl ?_
      refine r_ialdW (pc := 198) X dX8_undo_198 (kc_111 C) rfl hkN (by omega) rfl ?_
      refine r_iastW (pc := 199) X dX8_undo_199 (kc_86 C) rfl hkN (by omega) ?_
      refine r_iinc (pc := 200) X dX8_undo_200 rfl (by first | exact nI_i1 _ | rfl) ?_
      refine r_goto (pc := 203) X dX8_undo_203 (tgt := 182) (by decide) ?_
      exact ih (k + 1) _ (by omega) (c.s psk_undo1.1 psk_undo1.2)
def ps_undo2 : CPS := [(102, 114), (103, 115)]
theorem psk_undo2 : okP ps_undo2 ∧ ∀ a, a ∈ ps_undo2 → ∀ b, b ∈ ps_undo2 → a.2 ≠ b.1 := ⟨⟨by decide, ⟨by decide, trivial⟩⟩, by decide⟩
set_option maxRecDepth 10000 in
set_option maxHeartbeats 4000000 in
theorem lc_undo2 : ∀ (d : Nat) {h : hp_T} {M0 : Mem} (C : CS h) {w : wc_T} {κ : cx_T} {Φ : Option Value → hp_T → Prop} (X : CX w κ d 8 cX8_undo 2 (some .int) Φ) (hT : ∀ M1 z, CpK ps_undo2 10 M0 M1 → GG w κ 244 [some (.ref 80), z] [] (wi h M1)),
    ∀ (m k : Nat) (M : Mem), k + m = 10 → CpK ps_undo2 k M0 M → GG w κ 208 [some (.ref 80), some (.int (nI k))] [] (wi h M) := by
  intro d h M0 C w κ Φ X hT m
  induction m with
  | zero =>
    intro k M hk c
    have e : k = 10 := by omega
    subst e
    refine r_iload_n (pc := 208) X dX8_undo_208 rfl ?_
    refine r_bipush (pc := 209) (v := (nI 10)) X dX8_undo_209 (by decide) ?_
    refine r_icmp_geN (pc := 211) X dX8_undo_211 (tgt := 244) (by decide) (by omega) (by omega) (fun c211 => ?_) (fun c211 => ?_)
    · exact hT M _ c
    · exact absurd (Nat.le_refl _) c211
  | succ m ih =>
    intro k M hk c
    have hkN : k < 10 := by omega
    refine r_iload_n (pc := 208) X dX8_undo_208 rfl ?_
    refine r_bipush (pc := 209) (v := (nI 10)) X dX8_undo_209 (by decide) ?_
    refine r_icmp_geN (pc := 211) X dX8_undo_211 (tgt := 244) (by decide) (by omega) (by omega) (fun c211 => ?_) (fun c211 => ?_)
    · exact absurd c211 (by omega)
    · refine r_aload_n (pc := 214) X dX8_undo_214 rfl ?_
      refine r_getr (pc := 215) X dX8_undo_215 tf_8_138 rfl (kc_80 C) (rc_80_42 C) ?_
      refine r_iload_n (pc := 218) X dX8_undo_218 rfl ?_
      refine r_aload_n (pc := 219) X dX8_undo_219 rfl ?_
      refine r_getr (pc := 220) X dX8_undo_220 tf_8_205 rfl (kc_80 C) (rc_80_64 C) ?_
      refine r_iload_n (pc := 223) X dX8_undo_223 rfl ?_
      refine r_ialdW (pc := 224) X dX8_undo_224 (kc_114 C) rfl hkN (by omega) rfl ?_
      refine r_iastW (pc := 225) X dX8_undo_225 (kc_102 C) rfl hkN (by omega) ?_
      refine r_aload_n (pc := 226) X dX8_undo_226 rfl ?_
      refine r_getr (pc := 227) X dX8_undo_227 tf_8_141 rfl (kc_80 C) (rc_80_43 C) ?_
      refine r_iload_n (pc := 230) X dX8_undo_230 rfl ?_
      refine r_aload_n (pc := 231) X dX8_undo_231 rfl ?_
      refine r_getr (pc := 232) X dX8_undo_232 tf_8_208 rfl (kc_80 C) (rc_80_65 C) ?_
      refine r_iload_n (pc := 235) X dX8_undo_235 rfl ?_
      refine r_ialdW (pc := 236) X dX8_undo_236 (kc_115 C) rfl hkN (by omega) rfl ?_
      refine r_iastW (pc := 237) X dX8_undo_237 (kc_103 C) rfl hkN (by omega) ?_
      refine r_iinc (pc := 238) X dX8_undo_238 rfl (by first | exact nI_i1 _ | rfl) ?_
      refine r_goto (pc := 241) X dX8_undo_241 (tgt := 208) (by decide) ?_
      exact ih (k + 1) _ (by omega) (c.s psk_undo2.1 psk_undo2.2)
def ps_undo3 : CPS := [(104, 116), (105, 117)]
theorem psk_undo3 : okP ps_undo3 ∧ ∀ a, a ∈ ps_undo3 → ∀ b, b ∈ ps_undo3 → a.2 ≠ b.1 := ⟨⟨by decide, ⟨by decide, trivial⟩⟩, by decide⟩
set_option maxRecDepth 10000 in
set_option maxHeartbeats 4000000 in
theorem lc_undo3 : ∀ (d : Nat) {h : hp_T} {M0 : Mem} (C : CS h) {w : wc_T} {κ : cx_T} {Φ : Option Value → hp_T → Prop} (X : CX w κ d 8 cX8_undo 2 (some .int) Φ) (hT : ∀ M1 z, CpK ps_undo3 8 M0 M1 → GG w κ 282 [some (.ref 80), z] [] (wi h M1)),
    ∀ (m k : Nat) (M : Mem), k + m = 8 → CpK ps_undo3 k M0 M → GG w κ 246 [some (.ref 80), some (.int (nI k))] [] (wi h M) := by
  intro d h M0 C w κ Φ X hT m
  induction m with
  | zero =>
    intro k M hk c
    have e : k = 8 := by omega
    subst e
    refine r_iload_n (pc := 246) X dX8_undo_246 rfl ?_
    refine r_bipush (pc := 247) (v := (nI 8)) X dX8_undo_247 (by decide) ?_
    refine r_icmp_geN (pc := 249) X dX8_undo_249 (tgt := 282) (by decide) (by omega) (by omega) (fun c249 => ?_) (fun c249 => ?_)
    · exact hT M _ c
    · exact absurd (Nat.le_refl _) c249
  | succ m ih =>
    intro k M hk c
    have hkN : k < 8 := by omega
    refine r_iload_n (pc := 246) X dX8_undo_246 rfl ?_
    refine r_bipush (pc := 247) (v := (nI 8)) X dX8_undo_247 (by decide) ?_
    refine r_icmp_geN (pc := 249) X dX8_undo_249 (tgt := 282) (by decide) (by omega) (by omega) (fun c249 => ?_) (fun c249 => ?_)
    · exact absurd c249 (by omega)
    · refine r_aload_n (pc := 252) X dX8_undo_252 rfl ?_
      refine r_getr (pc := 253) X dX8_undo_253 tf_8_144 rfl (kc_80 C) (rc_80_44 C) ?_
      refine r_iload_n (pc := 256) X dX8_undo_256 rfl ?_
      refine r_aload_n (pc := 257) X dX8_undo_257 rfl ?_
      refine r_getr (pc := 258) X dX8_undo_258 tf_8_211 rfl (kc_80 C) (rc_80_66 C) ?_
      refine r_iload_n (pc := 261) X dX8_undo_261 rfl ?_
      refine r_ialdW (pc := 262) X dX8_undo_262 (kc_116 C) rfl hkN (by omega) rfl ?_
      refine r_iastW (pc := 263) X dX8_undo_263 (kc_104 C) rfl hkN (by omega) ?_
      refine r_aload_n (pc := 264) X dX8_undo_264 rfl ?_
      refine r_getr (pc := 265) X dX8_undo_265 tf_8_147 rfl (kc_80 C) (rc_80_45 C) ?_
      refine r_iload_n (pc := 268) X dX8_undo_268 rfl ?_
      refine r_aload_n (pc := 269) X dX8_undo_269 rfl ?_
      refine r_getr (pc := 270) X dX8_undo_270 tf_8_214 rfl (kc_80 C) (rc_80_67 C) ?_
      refine r_iload_n (pc := 273) X dX8_undo_273 rfl ?_
      refine r_ialdW (pc := 274) X dX8_undo_274 (kc_117 C) rfl hkN (by omega) rfl ?_
      refine r_iastW (pc := 275) X dX8_undo_275 (kc_105 C) rfl hkN (by omega) ?_
      refine r_iinc (pc := 276) X dX8_undo_276 rfl (by first | exact nI_i1 _ | rfl) ?_
      refine r_goto (pc := 279) X dX8_undo_279 (tgt := 246) (by decide) ?_
      exact ih (k + 1) _ (by omega) (c.s psk_undo3.1 psk_undo3.2)
