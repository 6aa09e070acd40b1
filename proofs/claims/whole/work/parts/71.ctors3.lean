/-! the constructor of the reference -/
def kMo : List CD := [nw 1 6, nw 1 6, nw 1 6, nw 1 6, nw 1 6, nw 1 24, nw 1 100, nw 1 6, nw 1 60, nw 1 60, nw 1 60, nw 1 60, nw 1 600, nw 1 101, ((1, 14), (upd (upd (upd (upd (upd (upd (upd (upd (upd (upd (upd (upd (upd (upd (fun _ => 0) 0 (nI 114)) 1 (nI 97)) 2 (nI 105)) 3 (nI 110)) 4 (nI 100)) 5 (nI 114)) 6 (nI 121)) 7 (nI 102)) 8 (nI 97)) 9 (nI 114)) 10 (nI 99)) 11 (nI 111)) 12 (nI 115)) 13 (nI 116)), fun _ => none), nw 3 100, nw 1 6, nw 1 6, nw 1 6, nw 1 6, nw 1 6, nw 1 10, nw 1 10, nw 1 8, nw 1 8, nw 1 6, nw 1 6, nw 1 6, nw 1 6, nw 1 6, nw 1 24, nw 1 6, nw 1 6, nw 1 10, nw 1 10, nw 1 8, nw 1 8, nw 1 20, ((1, 6), (upd (upd (upd (upd (upd (upd (fun _ => 0) 0 (-1)) 1 (-1)) 2 (-1)) 3 (-1)) 4 (-1)) 5 (-1)), fun _ => none), nw 1 6, nw 4 360, nw 4 60]
set_option maxRecDepth 4000 in
def fMo : Nat → Int32 := (upd (upd (upd (upd (upd (upd (upd (upd (upd (upd (upd (upd (upd (upd (upd (upd (upd (upd (upd (upd (upd (upd (upd (upd (upd (upd (upd (upd (upd (upd (upd (upd (fun _ => 0) 0 (nI 0)) 1 (nI 0)) 2 (-1)) 3 (nI 0)) 4 (-1)) 11 (nI 0)) 12 (-1)) 13 (nI 0)) 14 (nI 0)) 15 (nI 0)) 24 (nI 0)) 25 (nI 0)) 26 (nI 0)) 29 (nI 9999)) 30 (nI 0)) 31 (nI 0)) 32 (nI 0)) 33 (nI 0)) 37 (nI 0)) 40 (nI 0)) 41 (nI 0)) 46 (nI 0)) 47 (-1)) 48 (nI 0)) 49 (nI 0)) 50 (-1)) 51 (nI 0)) 52 (-1)) 53 (nI 0)) 54 (nI 0)) 55 (nI 0)) 68 (nI 0))
set_option maxRecDepth 4000 in
def rMo (n : Nat) : Nat → Option Nat := (va_up (va_up (va_up (va_up (va_up (va_up (va_up (va_up (va_up (va_up (va_up (va_up (va_up (va_up (va_up (va_up (va_up (va_up (va_up (va_up (va_up (va_up (va_up (va_up (va_up (va_up (va_up (va_up (va_up (va_up (va_up (va_up (va_up (va_up (va_up (va_up (va_up (va_up (va_up (va_up (va_up (va_up (fun _ => none) 5 (some (n + 0))) 6 (some (n + 1))) 7 (some (n + 2))) 8 (some (n + 3))) 9 (some (n + 4))) 10 (some (n + 5))) 16 (some (n + 6))) 17 (some (n + 7))) 18 (some (n + 8))) 19 (some (n + 9))) 20 (some (n + 10))) 21 (some (n + 11))) 22 (some (n + 12))) 23 (some (n + 13))) 27 (some (n + 14))) 28 (some (n + 15))) 34 (some (n + 16))) 35 (some (n + 17))) 36 (some (n + 18))) 38 (some (n + 19))) 39 (some (n + 20))) 42 (some (n + 21))) 43 (some (n + 22))) 44 (some (n + 23))) 45 (some (n + 24))) 56 (some (n + 25))) 57 (some (n + 26))) 58 (some (n + 27))) 59 (some (n + 28))) 60 (some (n + 29))) 61 (some (n + 30))) 62 (some (n + 31))) 63 (some (n + 32))) 64 (some (n + 33))) 65 (some (n + 34))) 66 (some (n + 35))) 67 (some (n + 36))) 69 (some (n + 37))) 70 (some (n + 38))) 71 (some (n + 39))) 72 (some (n + 40))) 73 (some (n + 41)))
set_option maxRecDepth 10000 in
set_option maxHeartbeats 8000000 in
theorem c_model : ∀ (d : Nat) {h : hp_T} {o : Nat} (hck : ck h o 0 8) (hf : h_i h o = fun _ => 0) (hr : h_r h o = fun _ => none), Ex (d + 2) nX8_init [.ref o] h 42 (1835) (fun v2 h2 => v2 = none ∧ Bs h o (1835) kMo fMo (rMo (h_n h)) h2) := by
  intro d h o hck hf hr
  have ho := hck.2.2
  have hz20 : 23 ≤ h_n h := Nat.le_of_lt (Nat.lt_of_le_of_lt hck.2.1 ho)
  have B0 := Bs.start hf hr
  refine Ex.of mm_X8_init (Nat.le_of_ble_eq_true rfl) fun w κ X hk hnm => ?_
  refine r_aload_n (pc := 0) X dX8_init_0 rfl ?_
  refine r_obj (pc := 1) X rfl dX8_init_1 to_8_1 (Nat.le_of_ble_eq_true rfl) hck.2.1 ?_
  refine r_aload_n (pc := 4) X dX8_init_4 rfl ?_
  refine r_iconst (pc := 5) (v := (nI 0)) X dX8_init_5 (by decide) ?_
  refine g_puti (pc := 6) X B0 ho hck dX8_init_6 tf_8_7 rfl (Or.inl rfl) ⟨rfl, rfl⟩ (fun h1 B1 => ?_)
  refine r_aload_n (pc := 9) X dX8_init_9 rfl ?_
  refine r_iconst (pc := 10) (v := (nI 0)) X dX8_init_10 (by decide) ?_
  refine g_puti (pc := 11) X B1 ho hck dX8_init_11 tf_8_13 rfl (Or.inl rfl) ⟨rfl, rfl⟩ (fun h2 B2 => ?_)
  refine r_aload_n (pc := 14) X dX8_init_14 rfl ?_
  refine r_iconst (pc := 15) (v := (-1)) X dX8_init_15 (by decide) ?_
  refine g_puti (pc := 16) X B2 ho hck dX8_init_16 tf_8_16 rfl (Or.inl rfl) ⟨rfl, rfl⟩ (fun h3 B3 => ?_)
  refine r_aload_n (pc := 19) X dX8_init_19 rfl ?_
  refine r_iconst (pc := 20) (v := (nI 0)) X dX8_init_20 (by decide) ?_
  refine g_puti (pc := 21) X B3 ho hck dX8_init_21 tf_8_19 rfl (Or.inl rfl) ⟨rfl, rfl⟩ (fun h4 B4 => ?_)
  refine r_aload_n (pc := 24) X dX8_init_24 rfl ?_
  refine r_iconst (pc := 25) (v := (-1)) X dX8_init_25 (by decide) ?_
  refine g_puti (pc := 26) X B4 ho hck dX8_init_26 tf_8_22 rfl (Or.inl rfl) ⟨rfl, rfl⟩ (fun h5 B5 => ?_)
  refine r_aload_n (pc := 29) X dX8_init_29 rfl ?_
  refine r_bipush (pc := 30) (v := (nI 6)) X dX8_init_30 (by decide) ?_
  refine g_newa1 (pc := 32) (n := 6) (m := 0) X hk B5 ho dX8_init_32 rfl (by decide) rfl (by decide) (fun h6 B6 => ?_)
  refine g_putr (pc := 34) (r := some (h_n h + 0)) X B6 ho hck dX8_init_34 tf_8_25 rfl (Or.inr ⟨rfl, hnm, rfl⟩) (fun h7 B7 => ?_)
  refine r_aload_n (pc := 37) X dX8_init_37 rfl ?_
  refine r_bipush (pc := 38) (v := (nI 6)) X dX8_init_38 (by decide) ?_
  refine g_newa1 (pc := 40) (n := 6) (m := 1) X hk B7 ho dX8_init_40 rfl (by decide) rfl (by decide) (fun h8 B8 => ?_)
  refine g_putr (pc := 42) (r := some (h_n h + 1)) X B8 ho hck dX8_init_42 tf_8_29 rfl (Or.inr ⟨rfl, hnm, rfl⟩) (fun h9 B9 => ?_)
  refine r_aload_n (pc := 45) X dX8_init_45 rfl ?_
  refine r_bipush (pc := 46) (v := (nI 6)) X dX8_init_46 (by decide) ?_
  refine g_newa1 (pc := 48) (n := 6) (m := 2) X hk B9 ho dX8_init_48 rfl (by decide) rfl (by decide) (fun h10 B10 => ?_)
  refine g_putr (pc := 50) (r := some (h_n h + 2)) X B10 ho hck dX8_init_50 tf_8_32 rfl (Or.inr ⟨rfl, hnm, rfl⟩) (fun h11 B11 => ?_)
  refine r_aload_n (pc := 53) X dX8_init_53 rfl ?_
  refine r_bipush (pc := 54) (v := (nI 6)) X dX8_init_54 (by decide) ?_
  refine g_newa1 (pc := 56) (n := 6) (m := 3) X hk B11 ho dX8_init_56 rfl (by decide) rfl (by decide) (fun h12 B12 => ?_)
  refine g_putr (pc := 58) (r := some (h_n h + 3)) X B12 ho hck dX8_init_58 tf_8_35 rfl (Or.inr ⟨rfl, hnm, rfl⟩) (fun h13 B13 => ?_)
  refine r_aload_n (pc := 61) X dX8_init_61 rfl ?_
  refine r_bipush (pc := 62) (v := (nI 6)) X dX8_init_62 (by decide) ?_
  refine g_newa1 (pc := 64) (n := 6) (m := 4) X hk B13 ho dX8_init_64 rfl (by decide) rfl (by decide) (fun h14 B14 => ?_)
  refine g_putr (pc := 66) (r := some (h_n h + 4)) X B14 ho hck dX8_init_66 tf_8_38 rfl (Or.inr ⟨rfl, hnm, rfl⟩) (fun h15 B15 => ?_)
  refine r_aload_n (pc := 69) X dX8_init_69 rfl ?_
  refine r_bipush (pc := 70) (v := (nI 24)) X dX8_init_70 (by decide) ?_
  refine g_newa1 (pc := 72) (n := 24) (m := 5) X hk B15 ho dX8_init_72 rfl (by decide) rfl (by decide) (fun h16 B16 => ?_)
  refine g_putr (pc := 74) (r := some (h_n h + 5)) X B16 ho hck dX8_init_74 tf_8_41 rfl (Or.inr ⟨rfl, hnm, rfl⟩) (fun h17 B17 => ?_)
  refine r_aload_n (pc := 77) X dX8_init_77 rfl ?_
  refine r_iconst (pc := 78) (v := (nI 0)) X dX8_init_78 (by decide) ?_
  refine g_puti (pc := 79) X B17 ho hck dX8_init_79 tf_8_44 rfl (Or.inl rfl) ⟨rfl, rfl⟩ (fun h18 B18 => ?_)
  refine r_aload_n (pc := 82) X dX8_init_82 rfl ?_
  refine r_iconst (pc := 83) (v := (-1)) X dX8_init_83 (by decide) ?_
  refine g_puti (pc := 84) X B18 ho hck dX8_init_84 tf_8_47 rfl (Or.inl rfl) ⟨rfl, rfl⟩ (fun h19 B19 => ?_)
  refine r_aload_n (pc := 87) X dX8_init_87 rfl ?_
  refine r_iconst (pc := 88) (v := (nI 0)) X dX8_init_88 (by decide) ?_
  refine g_puti (pc := 89) X B19 ho hck dX8_init_89 tf_8_50 rfl (Or.inl rfl) ⟨rfl, rfl⟩ (fun h20 B20 => ?_)
  refine r_aload_n (pc := 92) X dX8_init_92 rfl ?_
  refine r_iconst (pc := 93) (v := (nI 0)) X dX8_init_93 (by decide) ?_
  refine g_puti (pc := 94) X B20 ho hck dX8_init_94 tf_8_53 rfl (Or.inl rfl) ⟨rfl, rfl⟩ (fun h21 B21 => ?_)
  refine r_aload_n (pc := 97) X dX8_init_97 rfl ?_
  refine r_iconst (pc := 98) (v := (nI 0)) X dX8_init_98 (by decide) ?_
  refine g_puti (pc := 99) X B21 ho hck dX8_init_99 tf_8_56 rfl (Or.inl rfl) ⟨rfl, rfl⟩ (fun h22 B22 => ?_)
  refine r_aload_n (pc := 102) X dX8_init_102 rfl ?_
  refine r_bipush (pc := 103) (v := (nI 100)) X dX8_init_103 (by decide) ?_
  refine g_newa1 (pc := 105) (n := 100) (m := 6) X hk B22 ho dX8_init_105 rfl (by decide) rfl (by decide) (fun h23 B23 => ?_)
  refine g_putr (pc := 107) (r := some (h_n h + 6)) X B23 ho hck dX8_init_107 tf_8_59 rfl (Or.inr ⟨rfl, hnm, rfl⟩) (fun h24 B24 => ?_)
  refine r_aload_n (pc := 110) X dX8_init_110 rfl ?_
  refine r_bipush (pc := 111) (v := (nI 6)) X dX8_init_111 (by decide) ?_
  refine g_newa1 (pc := 113) (n := 6) (m := 7) X hk B24 ho dX8_init_113 rfl (by decide) rfl (by decide) (fun h25 B25 => ?_)
  refine g_putr (pc := 115) (r := some (h_n h + 7)) X B25 ho hck dX8_init_115 tf_8_62 rfl (Or.inr ⟨rfl, hnm, rfl⟩) (fun h26 B26 => ?_)
  refine r_aload_n (pc := 118) X dX8_init_118 rfl ?_
  refine r_bipush (pc := 119) (v := (nI 60)) X dX8_init_119 (by decide) ?_
  refine g_newa1 (pc := 121) (n := 60) (m := 8) X hk B26 ho dX8_init_121 rfl (by decide) rfl (by decide) (fun h27 B27 => ?_)
  refine g_putr (pc := 123) (r := some (h_n h + 8)) X B27 ho hck dX8_init_123 tf_8_65 rfl (Or.inr ⟨rfl, hnm, rfl⟩) (fun h28 B28 => ?_)
  refine r_aload_n (pc := 126) X dX8_init_126 rfl ?_
  refine r_bipush (pc := 127) (v := (nI 60)) X dX8_init_127 (by decide) ?_
  refine g_newa1 (pc := 129) (n := 60) (m := 9) X hk B28 ho dX8_init_129 rfl (by decide) rfl (by decide) (fun h29 B29 => ?_)
  refine g_putr (pc := 131) (r := some (h_n h + 9)) X B29 ho hck dX8_init_131 tf_8_68 rfl (Or.inr ⟨rfl, hnm, rfl⟩) (fun h30 B30 => ?_)
  refine r_aload_n (pc := 134) X dX8_init_134 rfl ?_
  refine r_bipush (pc := 135) (v := (nI 60)) X dX8_init_135 (by decide) ?_
  refine g_newa1 (pc := 137) (n := 60) (m := 10) X hk B30 ho dX8_init_137 rfl (by decide) rfl (by decide) (fun h31 B31 => ?_)
  refine g_putr (pc := 139) (r := some (h_n h + 10)) X B31 ho hck dX8_init_139 tf_8_71 rfl (Or.inr ⟨rfl, hnm, rfl⟩) (fun h32 B32 => ?_)
  refine r_aload_n (pc := 142) X dX8_init_142 rfl ?_
  refine r_bipush (pc := 143) (v := (nI 60)) X dX8_init_143 (by decide) ?_
  refine g_newa1 (pc := 145) (n := 60) (m := 11) X hk B32 ho dX8_init_145 rfl (by decide) rfl (by decide) (fun h33 B33 => ?_)
  refine g_putr (pc := 147) (r := some (h_n h + 11)) X B33 ho hck dX8_init_147 tf_8_74 rfl (Or.inr ⟨rfl, hnm, rfl⟩) (fun h34 B34 => ?_)
  refine r_aload_n (pc := 150) X dX8_init_150 rfl ?_
  refine r_sipush (pc := 151) (v := (nI 600)) X dX8_init_151 (by decide) ?_
  refine g_newa1 (pc := 154) (n := 600) (m := 12) X hk B34 ho dX8_init_154 rfl (by decide) rfl (by decide) (fun h35 B35 => ?_)
  refine g_putr (pc := 156) (r := some (h_n h + 12)) X B35 ho hck dX8_init_156 tf_8_77 rfl (Or.inr ⟨rfl, hnm, rfl⟩) (fun h36 B36 => ?_)
  refine r_aload_n (pc := 159) X dX8_init_159 rfl ?_
  refine r_bipush (pc := 160) (v := (nI 101)) X dX8_init_160 (by decide) ?_
  refine g_newa1 (pc := 162) (n := 101) (m := 13) X hk B36 ho dX8_init_162 rfl (by decide) rfl (by decide) (fun h37 B37 => ?_)
  refine g_putr (pc := 164) (r := some (h_n h + 13)) X B37 ho hck dX8_init_164 tf_8_80 rfl (Or.inr ⟨rfl, hnm, rfl⟩) (fun h38 B38 => ?_)
  refine r_aload_n (pc := 167) X dX8_init_167 rfl ?_
  refine r_iconst (pc := 168) (v := (nI 0)) X dX8_init_168 (by decide) ?_
  refine g_puti (pc := 169) X B38 ho hck dX8_init_169 tf_8_83 rfl (Or.inl rfl) ⟨rfl, rfl⟩ (fun h39 B39 => ?_)
  refine r_aload_n (pc := 172) X dX8_init_172 rfl ?_
  refine r_iconst (pc := 173) (v := (nI 0)) X dX8_init_173 (by decide) ?_
  refine g_puti (pc := 174) X B39 ho hck dX8_init_174 tf_8_86 rfl (Or.inl rfl) ⟨rfl, rfl⟩ (fun h40 B40 => ?_)
  refine r_aload_n (pc := 177) X dX8_init_177 rfl ?_
  refine r_iconst (pc := 178) (v := (nI 0)) X dX8_init_178 (by decide) ?_
  refine g_puti (pc := 179) X B40 ho hck dX8_init_179 tf_8_89 rfl (Or.inl rfl) ⟨rfl, rfl⟩ (fun h41 B41 => ?_)
  refine r_aload_n (pc := 182) X dX8_init_182 rfl ?_
  refine r_bipush (pc := 183) (v := (nI 14)) X dX8_init_183 (by decide) ?_
  refine g_newa1 (pc := 185) (n := 14) (m := 14) X hk B41 ho dX8_init_185 rfl (by decide) rfl (by decide) (fun h42 B42 => ?_)
  refine r_dup (pc := 187) X dX8_init_187 rfl ?_
  refine r_iconst (pc := 188) (v := (nI 0)) X dX8_init_188 (by decide) ?_
  refine r_bipush (pc := 189) (v := (nI 114)) X dX8_init_189 (by decide) ?_
  refine g_iast (pc := 191) (m := 14) X B42 ho hz20 dX8_init_191 rfl rfl (by decide) (by decide) (fun h43 B43 => ?_)
  refine r_dup (pc := 192) X dX8_init_192 rfl ?_
  refine r_iconst (pc := 193) (v := (nI 1)) X dX8_init_193 (by decide) ?_
  refine r_bipush (pc := 194) (v := (nI 97)) X dX8_init_194 (by decide) ?_
  refine g_iast (pc := 196) (m := 14) X B43 ho hz20 dX8_init_196 rfl rfl (by decide) (by decide) (fun h44 B44 => ?_)
  refine r_dup (pc := 197) X dX8_init_197 rfl ?_
  refine r_iconst (pc := 198) (v := (nI 2)) X dX8_init_198 (by decide) ?_
  refine r_bipush (pc := 199) (v := (nI 105)) X dX8_init_199 (by decide) ?_
  refine g_iast (pc := 201) (m := 14) X B44 ho hz20 dX8_init_201 rfl rfl (by decide) (by decide) (fun h45 B45 => ?_)
  refine r_dup (pc := 202) X dX8_init_202 rfl ?_
  refine r_iconst (pc := 203) (v := (nI 3)) X dX8_init_203 (by decide) ?_
  refine r_bipush (pc := 204) (v := (nI 110)) X dX8_init_204 (by decide) ?_
  refine g_iast (pc := 206) (m := 14) X B45 ho hz20 dX8_init_206 rfl rfl (by decide) (by decide) (fun h46 B46 => ?_)
  refine r_dup (pc := 207) X dX8_init_207 rfl ?_
  refine r_iconst (pc := 208) (v := (nI 4)) X dX8_init_208 (by decide) ?_
  refine r_bipush (pc := 209) (v := (nI 100)) X dX8_init_209 (by decide) ?_
  refine g_iast (pc := 211) (m := 14) X B46 ho hz20 dX8_init_211 rfl rfl (by decide) (by decide) (fun h47 B47 => ?_)
  refine r_dup (pc := 212) X dX8_init_212 rfl ?_
  refine r_iconst (pc := 213) (v := (nI 5)) X dX8_init_213 (by decide) ?_
  refine r_bipush (pc := 214) (v := (nI 114)) X dX8_init_214 (by decide) ?_
  refine g_iast (pc := 216) (m := 14) X B47 ho hz20 dX8_init_216 rfl rfl (by decide) (by decide) (fun h48 B48 => ?_)
  refine r_dup (pc := 217) X dX8_init_217 rfl ?_
  refine r_bipush (pc := 218) (v := (nI 6)) X dX8_init_218 (by decide) ?_
  refine r_bipush (pc := 220) (v := (nI 121)) X dX8_init_220 (by decide) ?_
  refine g_iast (pc := 222) (m := 14) X B48 ho hz20 dX8_init_222 rfl rfl (by decide) (by decide) (fun h49 B49 => ?_)
  refine r_dup (pc := 223) X dX8_init_223 rfl ?_
  refine r_bipush (pc := 224) (v := (nI 7)) X dX8_init_224 (by decide) ?_
  refine r_bipush (pc := 226) (v := (nI 102)) X dX8_init_226 (by decide) ?_
  refine g_iast (pc := 228) (m := 14) X B49 ho hz20 dX8_init_228 rfl rfl (by decide) (by decide) (fun h50 B50 => ?_)
  refine r_dup (pc := 229) X dX8_init_229 rfl ?_
  refine r_bipush (pc := 230) (v := (nI 8)) X dX8_init_230 (by decide) ?_
  refine r_bipush (pc := 232) (v := (nI 97)) X dX8_init_232 (by decide) ?_
  refine g_iast (pc := 234) (m := 14) X B50 ho hz20 dX8_init_234 rfl rfl (by decide) (by decide) (fun h51 B51 => ?_)
  refine r_dup (pc := 235) X dX8_init_235 rfl ?_
  refine r_bipush (pc := 236) (v := (nI 9)) X dX8_init_236 (by decide) ?_
  refine r_bipush (pc := 238) (v := (nI 114)) X dX8_init_238 (by decide) ?_
  refine g_iast (pc := 240) (m := 14) X B51 ho hz20 dX8_init_240 rfl rfl (by decide) (by decide) (fun h52 B52 => ?_)
  refine r_dup (pc := 241) X dX8_init_241 rfl ?_
  refine r_bipush (pc := 242) (v := (nI 10)) X dX8_init_242 (by decide) ?_
  refine r_bipush (pc := 244) (v := (nI 99)) X dX8_init_244 (by decide) ?_
  refine g_iast (pc := 246) (m := 14) X B52 ho hz20 dX8_init_246 rfl rfl (by decide) (by decide) (fun h53 B53 => ?_)
  refine r_dup (pc := 247) X dX8_init_247 rfl ?_
  refine r_bipush (pc := 248) (v := (nI 11)) X dX8_init_248 (by decide) ?_
  refine r_bipush (pc := 250) (v := (nI 111)) X dX8_init_250 (by decide) ?_
  refine g_iast (pc := 252) (m := 14) X B53 ho hz20 dX8_init_252 rfl rfl (by decide) (by decide) (fun h54 B54 => ?_)
  refine r_dup (pc := 253) X dX8_init_253 rfl ?_
  refine r_bipush (pc := 254) (v := (nI 12)) X dX8_init_254 (by decide) ?_
  refine r_bipush (pc := 256) (v := (nI 115)) X dX8_init_256 (by decide) ?_
  refine g_iast (pc := 258) (m := 14) X B54 ho hz20 dX8_init_258 rfl rfl (by decide) (by decide) (fun h55 B55 => ?_)
  refine r_dup (pc := 259) X dX8_init_259 rfl ?_
  refine r_bipush (pc := 260) (v := (nI 13)) X dX8_init_260 (by decide) ?_
  refine r_bipush (pc := 262) (v := (nI 116)) X dX8_init_262 (by decide) ?_
  refine g_iast (pc := 264) (m := 14) X B55 ho hz20 dX8_init_264 rfl rfl (by decide) (by decide) (fun h56 B56 => ?_)
  refine g_putr (pc := 265) (r := some (h_n h + 14)) X B56 ho hck dX8_init_265 tf_8_92 rfl (Or.inr ⟨rfl, hnm, rfl⟩) (fun h57 B57 => ?_)
  refine r_aload_n (pc := 268) X dX8_init_268 rfl ?_
  refine r_bipush (pc := 269) (v := (nI 100)) X dX8_init_269 (by decide) ?_
  refine g_newa3 (pc := 271) (n := 100) (m := 15) X hk B57 ho dX8_init_271 rfl (by decide) rfl (by decide) (fun h58 B58 => ?_)
  refine g_putr (pc := 273) (r := some (h_n h + 15)) X B58 ho hck dX8_init_273 tf_8_95 rfl (Or.inr ⟨rfl, hnm, rfl⟩) (fun h59 B59 => ?_)
  refine r_aload_n (pc := 276) X dX8_init_276 rfl ?_
  refine r_sipush (pc := 277) (v := (nI 9999)) X dX8_init_277 (by decide) ?_
  refine g_puti (pc := 280) X B59 ho hck dX8_init_280 tf_8_99 rfl (Or.inl rfl) ⟨rfl, rfl⟩ (fun h60 B60 => ?_)
  refine r_aload_n (pc := 283) X dX8_init_283 rfl ?_
  refine r_iconst (pc := 284) (v := (nI 0)) X dX8_init_284 (by decide) ?_
  refine g_puti (pc := 285) X B60 ho hck dX8_init_285 tf_8_102 rfl (Or.inl rfl) ⟨rfl, rfl⟩ (fun h61 B61 => ?_)
  refine r_aload_n (pc := 288) X dX8_init_288 rfl ?_
  refine r_iconst (pc := 289) (v := (nI 0)) X dX8_init_289 (by decide) ?_
  refine g_puti (pc := 290) X B61 ho hck dX8_init_290 tf_8_105 rfl (Or.inl rfl) ⟨rfl, rfl⟩ (fun h62 B62 => ?_)
  refine r_aload_n (pc := 293) X dX8_init_293 rfl ?_
  refine r_iconst (pc := 294) (v := (nI 0)) X dX8_init_294 (by decide) ?_
  refine g_puti (pc := 295) X B62 ho hck dX8_init_295 tf_8_108 rfl (Or.inl rfl) ⟨rfl, rfl⟩ (fun h63 B63 => ?_)
  refine r_aload_n (pc := 298) X dX8_init_298 rfl ?_
  refine r_iconst (pc := 299) (v := (nI 0)) X dX8_init_299 (by decide) ?_
  refine g_puti (pc := 300) X B63 ho hck dX8_init_300 tf_8_111 rfl (Or.inl rfl) ⟨rfl, rfl⟩ (fun h64 B64 => ?_)
  refine r_aload_n (pc := 303) X dX8_init_303 rfl ?_
  refine r_bipush (pc := 304) (v := (nI 6)) X dX8_init_304 (by decide) ?_
  refine g_newa1 (pc := 306) (n := 6) (m := 16) X hk B64 ho dX8_init_306 rfl (by decide) rfl (by decide) (fun h65 B65 => ?_)
  refine g_putr (pc := 308) (r := some (h_n h + 16)) X B65 ho hck dX8_init_308 tf_8_114 rfl (Or.inr ⟨rfl, hnm, rfl⟩) (fun h66 B66 => ?_)
  refine r_aload_n (pc := 311) X dX8_init_311 rfl ?_
  refine r_bipush (pc := 312) (v := (nI 6)) X dX8_init_312 (by decide) ?_
  refine g_newa1 (pc := 314) (n := 6) (m := 17) X hk B66 ho dX8_init_314 rfl (by decide) rfl (by decide) (fun h67 B67 => ?_)
  refine g_putr (pc := 316) (r := some (h_n h + 17)) X B67 ho hck dX8_init_316 tf_8_117 rfl (Or.inr ⟨rfl, hnm, rfl⟩) (fun h68 B68 => ?_)
  refine r_aload_n (pc := 319) X dX8_init_319 rfl ?_
  refine r_bipush (pc := 320) (v := (nI 6)) X dX8_init_320 (by decide) ?_
  refine g_newa1 (pc := 322) (n := 6) (m := 18) X hk B68 ho dX8_init_322 rfl (by decide) rfl (by decide) (fun h69 B69 => ?_)
  refine g_putr (pc := 324) (r := some (h_n h + 18)) X B69 ho hck dX8_init_324 tf_8_120 rfl (Or.inr ⟨rfl, hnm, rfl⟩) (fun h70 B70 => ?_)
  refine r_aload_n (pc := 327) X dX8_init_327 rfl ?_
  refine r_iconst (pc := 328) (v := (nI 0)) X dX8_init_328 (by decide) ?_
  refine g_puti (pc := 329) X B70 ho hck dX8_init_329 tf_8_123 rfl (Or.inl rfl) ⟨rfl, rfl⟩ (fun h71 B71 => ?_)
  refine r_aload_n (pc := 332) X dX8_init_332 rfl ?_
  refine r_bipush (pc := 333) (v := (nI 6)) X dX8_init_333 (by decide) ?_
  refine g_newa1 (pc := 335) (n := 6) (m := 19) X hk B71 ho dX8_init_335 rfl (by decide) rfl (by decide) (fun h72 B72 => ?_)
  refine g_putr (pc := 337) (r := some (h_n h + 19)) X B72 ho hck dX8_init_337 tf_8_126 rfl (Or.inr ⟨rfl, hnm, rfl⟩) (fun h73 B73 => ?_)
  refine r_aload_n (pc := 340) X dX8_init_340 rfl ?_
  refine r_bipush (pc := 341) (v := (nI 6)) X dX8_init_341 (by decide) ?_
  refine g_newa1 (pc := 343) (n := 6) (m := 20) X hk B73 ho dX8_init_343 rfl (by decide) rfl (by decide) (fun h74 B74 => ?_)
  refine g_putr (pc := 345) (r := some (h_n h + 20)) X B74 ho hck dX8_init_345 tf_8_129 rfl (Or.inr ⟨rfl, hnm, rfl⟩) (fun h75 B75 => ?_)
  refine r_aload_n (pc := 348) X dX8_init_348 rfl ?_
  refine r_iconst (pc := 349) (v := (nI 0)) X dX8_init_349 (by decide) ?_
  refine g_puti (pc := 350) X B75 ho hck dX8_init_350 tf_8_132 rfl (Or.inl rfl) ⟨rfl, rfl⟩ (fun h76 B76 => ?_)
  refine r_aload_n (pc := 353) X dX8_init_353 rfl ?_
  refine r_iconst (pc := 354) (v := (nI 0)) X dX8_init_354 (by decide) ?_
  refine g_puti (pc := 355) X B76 ho hck dX8_init_355 tf_8_135 rfl (Or.inl rfl) ⟨rfl, rfl⟩ (fun h77 B77 => ?_)
  refine r_aload_n (pc := 358) X dX8_init_358 rfl ?_
  refine r_bipush (pc := 359) (v := (nI 10)) X dX8_init_359 (by decide) ?_
  refine g_newa1 (pc := 361) (n := 10) (m := 21) X hk B77 ho dX8_init_361 rfl (by decide) rfl (by decide) (fun h78 B78 => ?_)
  refine g_putr (pc := 363) (r := some (h_n h + 21)) X B78 ho hck dX8_init_363 tf_8_138 rfl (Or.inr ⟨rfl, hnm, rfl⟩) (fun h79 B79 => ?_)
  refine r_aload_n (pc := 366) X dX8_init_366 rfl ?_
  refine r_bipush (pc := 367) (v := (nI 10)) X dX8_init_367 (by decide) ?_
  refine g_newa1 (pc := 369) (n := 10) (m := 22) X hk B79 ho dX8_init_369 rfl (by decide) rfl (by decide) (fun h80 B80 => ?_)
  refine g_putr (pc := 371) (r := some (h_n h + 22)) X B80 ho hck dX8_init_371 tf_8_141 rfl (Or.inr ⟨rfl, hnm, rfl⟩) (fun h81 B81 => ?_)
  refine r_aload_n (pc := 374) X dX8_init_374 rfl ?_
  refine r_bipush (pc := 375) (v := (nI 8)) X dX8_init_375 (by decide) ?_
  refine g_newa1 (pc := 377) (n := 8) (m := 23) X hk B81 ho dX8_init_377 rfl (by decide) rfl (by decide) (fun h82 B82 => ?_)
  refine g_putr (pc := 379) (r := some (h_n h + 23)) X B82 ho hck dX8_init_379 tf_8_144 rfl (Or.inr ⟨rfl, hnm, rfl⟩) (fun h83 B83 => ?_)
  refine r_aload_n (pc := 382) X dX8_init_382 rfl ?_
  refine r_bipush (pc := 383) (v := (nI 8)) X dX8_init_383 (by decide) ?_
  refine g_newa1 (pc := 385) (n := 8) (m := 24) X hk B83 ho dX8_init_385 rfl (by decide) rfl (by decide) (fun h84 B84 => ?_)
  refine g_putr (pc := 387) (r := some (h_n h + 24)) X B84 ho hck dX8_init_387 tf_8_147 rfl (Or.inr ⟨rfl, hnm, rfl⟩) (fun h85 B85 => ?_)
  refine r_aload_n (pc := 390) X dX8_init_390 rfl ?_
  refine r_iconst (pc := 391) (v := (nI 0)) X dX8_init_391 (by decide) ?_
  refine g_puti (pc := 392) X B85 ho hck dX8_init_392 tf_8_150 rfl (Or.inl rfl) ⟨rfl, rfl⟩ (fun h86 B86 => ?_)
  refine r_aload_n (pc := 395) X dX8_init_395 rfl ?_
  refine r_iconst (pc := 396) (v := (-1)) X dX8_init_396 (by decide) ?_
  refine g_puti (pc := 397) X B86 ho hck dX8_init_397 tf_8_154 rfl (Or.inl rfl) ⟨rfl, rfl⟩ (fun h87 B87 => ?_)
  refine r_aload_n (pc := 400) X dX8_init_400 rfl ?_
  refine r_iconst (pc := 401) (v := (nI 0)) X dX8_init_401 (by decide) ?_
  refine g_puti (pc := 402) X B87 ho hck dX8_init_402 tf_8_157 rfl (Or.inl rfl) ⟨rfl, rfl⟩ (fun h88 B88 => ?_)
  refine r_aload_n (pc := 405) X dX8_init_405 rfl ?_
  refine r_iconst (pc := 406) (v := (nI 0)) X dX8_init_406 (by decide) ?_
  refine g_puti (pc := 407) X B88 ho hck dX8_init_407 tf_8_160 rfl (Or.inl rfl) ⟨rfl, rfl⟩ (fun h89 B89 => ?_)
  refine r_aload_n (pc := 410) X dX8_init_410 rfl ?_
  refine r_iconst (pc := 411) (v := (-1)) X dX8_init_411 (by decide) ?_
  refine g_puti (pc := 412) X B89 ho hck dX8_init_412 tf_8_163 rfl (Or.inl rfl) ⟨rfl, rfl⟩ (fun h90 B90 => ?_)
  refine r_aload_n (pc := 415) X dX8_init_415 rfl ?_
  refine r_iconst (pc := 416) (v := (nI 0)) X dX8_init_416 (by decide) ?_
  refine g_puti (pc := 417) X B90 ho hck dX8_init_417 tf_8_166 rfl (Or.inl rfl) ⟨rfl, rfl⟩ (fun h91 B91 => ?_)
  refine r_aload_n (pc := 420) X dX8_init_420 rfl ?_
  refine r_iconst (pc := 421) (v := (-1)) X dX8_init_421 (by decide) ?_
  refine g_puti (pc := 422) X B91 ho hck dX8_init_422 tf_8_169 rfl (Or.inl rfl) ⟨rfl, rfl⟩ (fun h92 B92 => ?_)
  refine r_aload_n (pc := 425) X dX8_init_425 rfl ?_
  refine r_iconst (pc := 426) (v := (nI 0)) X dX8_init_426 (by decide) ?_
  refine g_puti (pc := 427) X B92 ho hck dX8_init_427 tf_8_172 rfl (Or.inl rfl) ⟨rfl, rfl⟩ (fun h93 B93 => ?_)
  refine r_aload_n (pc := 430) X dX8_init_430 rfl ?_
  refine r_iconst (pc := 431) (v := (nI 0)) X dX8_init_431 (by decide) ?_
  refine g_puti (pc := 432) X B93 ho hck dX8_init_432 tf_8_175 rfl (Or.inl rfl) ⟨rfl, rfl⟩ (fun h94 B94 => ?_)
  refine r_aload_n (pc := 435) X dX8_init_435 rfl ?_
  refine r_iconst (pc := 436) (v := (nI 0)) X dX8_init_436 (by decide) ?_
  refine g_puti (pc := 437) X B94 ho hck dX8_init_437 tf_8_178 rfl (Or.inl rfl) ⟨rfl, rfl⟩ (fun h95 B95 => ?_)
  refine r_aload_n (pc := 440) X dX8_init_440 rfl ?_
  refine r_bipush (pc := 441) (v := (nI 6)) X dX8_init_441 (by decide) ?_
  refine g_newa1 (pc := 443) (n := 6) (m := 25) X hk B95 ho dX8_init_443 rfl (by decide) rfl (by decide) (fun h96 B96 => ?_)
  refine g_putr (pc := 445) (r := some (h_n h + 25)) X B96 ho hck dX8_init_445 tf_8_181 rfl (Or.inr ⟨rfl, hnm, rfl⟩) (fun h97 B97 => ?_)
  refine r_aload_n (pc := 448) X dX8_init_448 rfl ?_
  refine r_bipush (pc := 449) (v := (nI 6)) X dX8_init_449 (by decide) ?_
  refine g_newa1 (pc := 451) (n := 6) (m := 26) X hk B97 ho dX8_init_451 rfl (by decide) rfl (by decide) (fun h98 B98 => ?_)
  refine g_putr (pc := 453) (r := some (h_n h + 26)) X B98 ho hck dX8_init_453 tf_8_184 rfl (Or.inr ⟨rfl, hnm, rfl⟩) (fun h99 B99 => ?_)
  refine r_aload_n (pc := 456) X dX8_init_456 rfl ?_
  refine r_bipush (pc := 457) (v := (nI 6)) X dX8_init_457 (by decide) ?_
  refine g_newa1 (pc := 459) (n := 6) (m := 27) X hk B99 ho dX8_init_459 rfl (by decide) rfl (by decide) (fun h100 B100 => ?_)
  refine g_putr (pc := 461) (r := some (h_n h + 27)) X B100 ho hck dX8_init_461 tf_8_187 rfl (Or.inr ⟨rfl, hnm, rfl⟩) (fun h101 B101 => ?_)
  refine r_aload_n (pc := 464) X dX8_init_464 rfl ?_
  refine r_bipush (pc := 465) (v := (nI 6)) X dX8_init_465 (by decide) ?_
  refine g_newa1 (pc := 467) (n := 6) (m := 28) X hk B101 ho dX8_init_467 rfl (by decide) rfl (by decide) (fun h102 B102 => ?_)
  refine g_putr (pc := 469) (r := some (h_n h + 28)) X B102 ho hck dX8_init_469 tf_8_190 rfl (Or.inr ⟨rfl, hnm, rfl⟩) (fun h103 B103 => ?_)
  refine r_aload_n (pc := 472) X dX8_init_472 rfl ?_
  refine r_bipush (pc := 473) (v := (nI 6)) X dX8_init_473 (by decide) ?_
  refine g_newa1 (pc := 475) (n := 6) (m := 29) X hk B103 ho dX8_init_475 rfl (by decide) rfl (by decide) (fun h104 B104 => ?_)
  refine g_putr (pc := 477) (r := some (h_n h + 29)) X B104 ho hck dX8_init_477 tf_8_193 rfl (Or.inr ⟨rfl, hnm, rfl⟩) (fun h105 B105 => ?_)
  refine r_aload_n (pc := 480) X dX8_init_480 rfl ?_
  refine r_bipush (pc := 481) (v := (nI 24)) X dX8_init_481 (by decide) ?_
  refine g_newa1 (pc := 483) (n := 24) (m := 30) X hk B105 ho dX8_init_483 rfl (by decide) rfl (by decide) (fun h106 B106 => ?_)
  refine g_putr (pc := 485) (r := some (h_n h + 30)) X B106 ho hck dX8_init_485 tf_8_196 rfl (Or.inr ⟨rfl, hnm, rfl⟩) (fun h107 B107 => ?_)
  refine r_aload_n (pc := 488) X dX8_init_488 rfl ?_
  refine r_bipush (pc := 489) (v := (nI 6)) X dX8_init_489 (by decide) ?_
  refine g_newa1 (pc := 491) (n := 6) (m := 31) X hk B107 ho dX8_init_491 rfl (by decide) rfl (by decide) (fun h108 B108 => ?_)
  refine g_putr (pc := 493) (r := some (h_n h + 31)) X B108 ho hck dX8_init_493 tf_8_199 rfl (Or.inr ⟨rfl, hnm, rfl⟩) (fun h109 B109 => ?_)
  refine r_aload_n (pc := 496) X dX8_init_496 rfl ?_
  refine r_bipush (pc := 497) (v := (nI 6)) X dX8_init_497 (by decide) ?_
  refine g_newa1 (pc := 499) (n := 6) (m := 32) X hk B109 ho dX8_init_499 rfl (by decide) rfl (by decide) (fun h110 B110 => ?_)
  refine g_putr (pc := 501) (r := some (h_n h + 32)) X B110 ho hck dX8_init_501 tf_8_202 rfl (Or.inr ⟨rfl, hnm, rfl⟩) (fun h111 B111 => ?_)
  refine r_aload_n (pc := 504) X dX8_init_504 rfl ?_
  refine r_bipush (pc := 505) (v := (nI 10)) X dX8_init_505 (by decide) ?_
  refine g_newa1 (pc := 507) (n := 10) (m := 33) X hk B111 ho dX8_init_507 rfl (by decide) rfl (by decide) (fun h112 B112 => ?_)
  refine g_putr (pc := 509) (r := some (h_n h + 33)) X B112 ho hck dX8_init_509 tf_8_205 rfl (Or.inr ⟨rfl, hnm, rfl⟩) (fun h113 B113 => ?_)
  refine r_aload_n (pc := 512) X dX8_init_512 rfl ?_
  refine r_bipush (pc := 513) (v := (nI 10)) X dX8_init_513 (by decide) ?_
  refine g_newa1 (pc := 515) (n := 10) (m := 34) X hk B113 ho dX8_init_515 rfl (by decide) rfl (by decide) (fun h114 B114 => ?_)
  refine g_putr (pc := 517) (r := some (h_n h + 34)) X B114 ho hck dX8_init_517 tf_8_208 rfl (Or.inr ⟨rfl, hnm, rfl⟩) (fun h115 B115 => ?_)
  refine r_aload_n (pc := 520) X dX8_init_520 rfl ?_
  refine r_bipush (pc := 521) (v := (nI 8)) X dX8_init_521 (by decide) ?_
  refine g_newa1 (pc := 523) (n := 8) (m := 35) X hk B115 ho dX8_init_523 rfl (by decide) rfl (by decide) (fun h116 B116 => ?_)
  refine g_putr (pc := 525) (r := some (h_n h + 35)) X B116 ho hck dX8_init_525 tf_8_211 rfl (Or.inr ⟨rfl, hnm, rfl⟩) (fun h117 B117 => ?_)
  refine r_aload_n (pc := 528) X dX8_init_528 rfl ?_
  refine r_bipush (pc := 529) (v := (nI 8)) X dX8_init_529 (by decide) ?_
  refine g_newa1 (pc := 531) (n := 8) (m := 36) X hk B117 ho dX8_init_531 rfl (by decide) rfl (by decide) (fun h118 B118 => ?_)
  refine g_putr (pc := 533) (r := some (h_n h + 36)) X B118 ho hck dX8_init_533 tf_8_214 rfl (Or.inr ⟨rfl, hnm, rfl⟩) (fun h119 B119 => ?_)
  refine r_aload_n (pc := 536) X dX8_init_536 rfl ?_
  refine r_iconst (pc := 537) (v := (nI 0)) X dX8_init_537 (by decide) ?_
  refine g_puti (pc := 538) X B119 ho hck dX8_init_538 tf_8_217 rfl (Or.inl rfl) ⟨rfl, rfl⟩ (fun h120 B120 => ?_)
  refine r_aload_n (pc := 541) X dX8_init_541 rfl ?_
  refine r_bipush (pc := 542) (v := (nI 20)) X dX8_init_542 (by decide) ?_
  refine g_newa1 (pc := 544) (n := 20) (m := 37) X hk B120 ho dX8_init_544 rfl (by decide) rfl (by decide) (fun h121 B121 => ?_)
  refine g_putr (pc := 546) (r := some (h_n h + 37)) X B121 ho hck dX8_init_546 tf_8_220 rfl (Or.inr ⟨rfl, hnm, rfl⟩) (fun h122 B122 => ?_)
  refine r_aload_n (pc := 549) X dX8_init_549 rfl ?_
  refine r_bipush (pc := 550) (v := (nI 6)) X dX8_init_550 (by decide) ?_
  refine g_newa1 (pc := 552) (n := 6) (m := 38) X hk B122 ho dX8_init_552 rfl (by decide) rfl (by decide) (fun h123 B123 => ?_)
  refine r_dup (pc := 554) X dX8_init_554 rfl ?_
  refine r_iconst (pc := 555) (v := (nI 0)) X dX8_init_555 (by decide) ?_
  refine r_iconst (pc := 556) (v := (-1)) X dX8_init_556 (by decide) ?_
  refine g_iast (pc := 557) (m := 38) X B123 ho hz20 dX8_init_557 rfl rfl (by decide) (by decide) (fun h124 B124 => ?_)
  refine r_dup (pc := 558) X dX8_init_558 rfl ?_
  refine r_iconst (pc := 559) (v := (nI 1)) X dX8_init_559 (by decide) ?_
  refine r_iconst (pc := 560) (v := (-1)) X dX8_init_560 (by decide) ?_
  refine g_iast (pc := 561) (m := 38) X B124 ho hz20 dX8_init_561 rfl rfl (by decide) (by decide) (fun h125 B125 => ?_)
  refine r_dup (pc := 562) X dX8_init_562 rfl ?_
  refine r_iconst (pc := 563) (v := (nI 2)) X dX8_init_563 (by decide) ?_
  refine r_iconst (pc := 564) (v := (-1)) X dX8_init_564 (by decide) ?_
  refine g_iast (pc := 565) (m := 38) X B125 ho hz20 dX8_init_565 rfl rfl (by decide) (by decide) (fun h126 B126 => ?_)
  refine r_dup (pc := 566) X dX8_init_566 rfl ?_
  refine r_iconst (pc := 567) (v := (nI 3)) X dX8_init_567 (by decide) ?_
  refine r_iconst (pc := 568) (v := (-1)) X dX8_init_568 (by decide) ?_
  refine g_iast (pc := 569) (m := 38) X B126 ho hz20 dX8_init_569 rfl rfl (by decide) (by decide) (fun h127 B127 => ?_)
  refine r_dup (pc := 570) X dX8_init_570 rfl ?_
  refine r_iconst (pc := 571) (v := (nI 4)) X dX8_init_571 (by decide) ?_
  refine r_iconst (pc := 572) (v := (-1)) X dX8_init_572 (by decide) ?_
  refine g_iast (pc := 573) (m := 38) X B127 ho hz20 dX8_init_573 rfl rfl (by decide) (by decide) (fun h128 B128 => ?_)
  refine r_dup (pc := 574) X dX8_init_574 rfl ?_
  refine r_iconst (pc := 575) (v := (nI 5)) X dX8_init_575 (by decide) ?_
  refine r_iconst (pc := 576) (v := (-1)) X dX8_init_576 (by decide) ?_
  refine g_iast (pc := 577) (m := 38) X B128 ho hz20 dX8_init_577 rfl rfl (by decide) (by decide) (fun h129 B129 => ?_)
  refine g_putr (pc := 578) (r := some (h_n h + 38)) X B129 ho hck dX8_init_578 tf_8_223 rfl (Or.inr ⟨rfl, hnm, rfl⟩) (fun h130 B130 => ?_)
  refine r_aload_n (pc := 581) X dX8_init_581 rfl ?_
  refine r_bipush (pc := 582) (v := (nI 6)) X dX8_init_582 (by decide) ?_
  refine g_newa1 (pc := 584) (n := 6) (m := 39) X hk B130 ho dX8_init_584 rfl (by decide) rfl (by decide) (fun h131 B131 => ?_)
  refine g_putr (pc := 586) (r := some (h_n h + 39)) X B131 ho hck dX8_init_586 tf_8_226 rfl (Or.inr ⟨rfl, hnm, rfl⟩) (fun h132 B132 => ?_)
  refine r_aload_n (pc := 589) X dX8_init_589 rfl ?_
  refine r_sipush (pc := 590) (v := (nI 360)) X dX8_init_590 (by decide) ?_
  refine g_newa4 (pc := 593) (n := 360) (m := 40) X hk B132 ho dX8_init_593 rfl (by decide) rfl (by decide) (fun h133 B133 => ?_)
  refine g_putr (pc := 595) (r := some (h_n h + 40)) X B133 ho hck dX8_init_595 tf_8_229 rfl (Or.inr ⟨rfl, hnm, rfl⟩) (fun h134 B134 => ?_)
  refine r_aload_n (pc := 598) X dX8_init_598 rfl ?_
  refine r_bipush (pc := 599) (v := (nI 60)) X dX8_init_599 (by decide) ?_
  refine g_newa4 (pc := 601) (n := 60) (m := 41) X hk B134 ho dX8_init_601 rfl (by decide) rfl (by decide) (fun h135 B135 => ?_)
  refine g_putr (pc := 603) (r := some (h_n h + 41)) X B135 ho hck dX8_init_603 tf_8_233 rfl (Or.inr ⟨rfl, hnm, rfl⟩) (fun h136 B136 => ?_)
  refine r_vret (pc := 606) X dX8_init_606 rfl ?_
  exact ⟨⟨rfl, B136⟩, Prod.ext B136.1.1 B136.1.2⟩
