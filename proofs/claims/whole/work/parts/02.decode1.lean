theorem dX0_init_0 : decode cX0_init 0 = .ok (.aload_n 0, 1) := by decide +kernel
theorem dX0_init_1 : decode cX0_init 1 = .ok (.invokespecial 3, 3) := by decide +kernel
theorem dX0_init_4 : decode cX0_init 4 = .ok (.aload_n 0, 1) := by decide +kernel
theorem dX0_init_5 : decode cX0_init 5 = .ok (.bipush 20, 2) := by decide +kernel
theorem dX0_init_7 : decode cX0_init 7 = .ok (.newarray .int, 2) := by decide +kernel
theorem dX0_init_9 : decode cX0_init 9 = .ok (.putfield 11, 3) := by decide +kernel
theorem dX0_init_12 : decode cX0_init 12 = .ok (.return_, 1) := by decide +kernel
theorem dX0_forget_0 : decode cX0_forget 0 = .ok (.aload_n 0, 1) := by decide +kernel
theorem dX0_forget_1 : decode cX0_forget 1 = .ok (.iconst 0, 1) := by decide +kernel
theorem dX0_forget_2 : decode cX0_forget 2 = .ok (.putfield 15, 3) := by decide +kernel
theorem dX0_forget_5 : decode cX0_forget 5 = .ok (.return_, 1) := by decide +kernel
theorem dX0_kept_0 : decode cX0_kept 0 = .ok (.iload_n 1, 1) := by decide +kernel
theorem dX0_kept_1 : decode cX0_kept 1 = .ok (.ifCond .lt 26, 3) := by decide +kernel
theorem dX0_kept_4 : decode cX0_kept 4 = .ok (.iload_n 1, 1) := by decide +kernel
theorem dX0_kept_5 : decode cX0_kept 5 = .ok (.aload_n 0, 1) := by decide +kernel
theorem dX0_kept_6 : decode cX0_kept 6 = .ok (.getfield 15, 3) := by decide +kernel
theorem dX0_kept_9 : decode cX0_kept 9 = .ok (.if_icmp .ge 18, 3) := by decide +kernel
theorem dX0_kept_12 : decode cX0_kept 12 = .ok (.iload_n 1, 1) := by decide +kernel
theorem dX0_kept_13 : decode cX0_kept 13 = .ok (.bipush 20, 2) := by decide +kernel
theorem dX0_kept_15 : decode cX0_kept 15 = .ok (.if_icmp .ge 12, 3) := by decide +kernel
theorem dX0_kept_18 : decode cX0_kept 18 = .ok (.aload_n 0, 1) := by decide +kernel
theorem dX0_kept_19 : decode cX0_kept 19 = .ok (.getfield 11, 3) := by decide +kernel
theorem dX0_kept_22 : decode cX0_kept 22 = .ok (.iload_n 1, 1) := by decide +kernel
theorem dX0_kept_23 : decode cX0_kept 23 = .ok (.iaload, 1) := by decide +kernel
theorem dX0_kept_24 : decode cX0_kept 24 = .ok (.goto 4, 3) := by decide +kernel
theorem dX0_kept_27 : decode cX0_kept 27 = .ok (.iconst (-1), 1) := by decide +kernel
theorem dX0_kept_28 : decode cX0_kept 28 = .ok (.ireturn, 1) := by decide +kernel
theorem dX0_perform_0 : decode cX0_perform 0 = .ok (.aload_n 0, 1) := by decide +kernel
theorem dX0_perform_1 : decode cX0_perform 1 = .ok (.aload_n 1, 1) := by decide +kernel
theorem dX0_perform_2 : decode cX0_perform 2 = .ok (.getfield 19, 3) := by decide +kernel
theorem dX0_perform_5 : decode cX0_perform 5 = .ok (.iload_n 2, 1) := by decide +kernel
theorem dX0_perform_6 : decode cX0_perform 6 = .ok (.iaload, 1) := by decide +kernel
theorem dX0_perform_7 : decode cX0_perform 7 = .ok (.putfield 24, 3) := by decide +kernel
theorem dX0_perform_10 : decode cX0_perform 10 = .ok (.aload_n 0, 1) := by decide +kernel
theorem dX0_perform_11 : decode cX0_perform 11 = .ok (.aload_n 1, 1) := by decide +kernel
theorem dX0_perform_12 : decode cX0_perform 12 = .ok (.getfield 27, 3) := by decide +kernel
theorem dX0_perform_15 : decode cX0_perform 15 = .ok (.iload_n 2, 1) := by decide +kernel
theorem dX0_perform_16 : decode cX0_perform 16 = .ok (.iaload, 1) := by decide +kernel
theorem dX0_perform_17 : decode cX0_perform 17 = .ok (.putfield 30, 3) := by decide +kernel
theorem dX0_perform_20 : decode cX0_perform 20 = .ok (.aload_n 0, 1) := by decide +kernel
theorem dX0_perform_21 : decode cX0_perform 21 = .ok (.iload_n 2, 1) := by decide +kernel
theorem dX0_perform_22 : decode cX0_perform 22 = .ok (.putfield 32, 3) := by decide +kernel
theorem dX0_perform_25 : decode cX0_perform 25 = .ok (.aload_n 0, 1) := by decide +kernel
theorem dX0_perform_26 : decode cX0_perform 26 = .ok (.iload_n 3, 1) := by decide +kernel
theorem dX0_perform_27 : decode cX0_perform 27 = .ok (.aload_n 0, 1) := by decide +kernel
theorem dX0_perform_28 : decode cX0_perform 28 = .ok (.getfield 24, 3) := by decide +kernel
theorem dX0_perform_31 : decode cX0_perform 31 = .ok (.iload 4, 2) := by decide +kernel
theorem dX0_perform_33 : decode cX0_perform 33 = .ok (.iconst 0, 1) := by decide +kernel
theorem dX0_perform_34 : decode cX0_perform 34 = .ok (.invokevirtual 35, 3) := by decide +kernel
theorem dX0_perform_37 : decode cX0_perform 37 = .ok (.ireturn, 1) := by decide +kernel
theorem dX0_begin_0 : decode cX0_begin 0 = .ok (.aload_n 0, 1) := by decide +kernel
theorem dX0_begin_1 : decode cX0_begin 1 = .ok (.getfield 15, 3) := by decide +kernel
theorem dX0_begin_4 : decode cX0_begin 4 = .ok (.bipush 20, 2) := by decide +kernel
theorem dX0_begin_6 : decode cX0_begin 6 = .ok (.if_icmp .ge 13, 3) := by decide +kernel
theorem dX0_begin_9 : decode cX0_begin 9 = .ok (.aload_n 0, 1) := by decide +kernel
theorem dX0_begin_10 : decode cX0_begin 10 = .ok (.getfield 11, 3) := by decide +kernel
theorem dX0_begin_13 : decode cX0_begin 13 = .ok (.aload_n 0, 1) := by decide +kernel
theorem dX0_begin_14 : decode cX0_begin 14 = .ok (.getfield 15, 3) := by decide +kernel
theorem dX0_begin_17 : decode cX0_begin 17 = .ok (.iload_n 1, 1) := by decide +kernel
theorem dX0_begin_18 : decode cX0_begin 18 = .ok (.iastore, 1) := by decide +kernel
theorem dX0_begin_19 : decode cX0_begin 19 = .ok (.aload_n 0, 1) := by decide +kernel
theorem dX0_begin_20 : decode cX0_begin 20 = .ok (.dup, 1) := by decide +kernel
theorem dX0_begin_21 : decode cX0_begin 21 = .ok (.getfield 15, 3) := by decide +kernel
theorem dX0_begin_24 : decode cX0_begin 24 = .ok (.iconst 1, 1) := by decide +kernel
theorem dX0_begin_25 : decode cX0_begin 25 = .ok (.iadd, 1) := by decide +kernel
theorem dX0_begin_26 : decode cX0_begin 26 = .ok (.putfield 15, 3) := by decide +kernel
theorem dX0_begin_29 : decode cX0_begin 29 = .ok (.return_, 1) := by decide +kernel
theorem dX0_run_0 : decode cX0_run 0 = .ok (.iload 4, 2) := by decide +kernel
theorem dX0_run_2 : decode cX0_run 2 = .ok (.bipush 12, 2) := by decide +kernel
theorem dX0_run_4 : decode cX0_run 4 = .ok (.if_icmp .lt 5, 3) := by decide +kernel
theorem dX0_run_7 : decode cX0_run 7 = .ok (.iconst 0, 1) := by decide +kernel
theorem dX0_run_8 : decode cX0_run 8 = .ok (.ireturn, 1) := by decide +kernel
theorem dX0_run_9 : decode cX0_run 9 = .ok (.getstatic 39, 3) := by decide +kernel
theorem dX0_run_12 : decode cX0_run 12 = .ok (.iload_n 1, 1) := by decide +kernel
theorem dX0_run_13 : decode cX0_run 13 = .ok (.bipush 7, 2) := by decide +kernel
theorem dX0_run_15 : decode cX0_run 15 = .ok (.imul, 1) := by decide +kernel
theorem dX0_run_16 : decode cX0_run 16 = .ok (.iload_n 2, 1) := by decide +kernel
theorem dX0_run_17 : decode cX0_run 17 = .ok (.iadd, 1) := by decide +kernel
theorem dX0_run_18 : decode cX0_run 18 = .ok (.iaload, 1) := by decide +kernel
theorem dX0_run_19 : decode cX0_run 19 = .ok (.istore 5, 2) := by decide +kernel
theorem dX0_run_21 : decode cX0_run 21 = .ok (.aload_n 0, 1) := by decide +kernel
theorem dX0_run_22 : decode cX0_run 22 = .ok (.iload 5, 2) := by decide +kernel
theorem dX0_run_24 : decode cX0_run 24 = .ok (.invokevirtual 42, 3) := by decide +kernel
theorem dX0_run_27 : decode cX0_run 27 = .ok (.aload_n 0, 1) := by decide +kernel
theorem dX0_run_28 : decode cX0_run 28 = .ok (.iload 5, 2) := by decide +kernel
theorem dX0_run_30 : decode cX0_run 30 = .ok (.iload_n 3, 1) := by decide +kernel
theorem dX0_run_31 : decode cX0_run 31 = .ok (.iload 4, 2) := by decide +kernel
theorem dX0_run_33 : decode cX0_run 33 = .ok (.iconst 1, 1) := by decide +kernel
theorem dX0_run_34 : decode cX0_run 34 = .ok (.iadd, 1) := by decide +kernel
theorem dX0_run_35 : decode cX0_run 35 = .ok (.invokevirtual 46, 3) := by decide +kernel
theorem dX0_run_38 : decode cX0_run 38 = .ok (.ireturn, 1) := by decide +kernel
theorem dX0_within_0 : decode cX0_within 0 = .ok (.iload_n 1, 1) := by decide +kernel
theorem dX0_within_1 : decode cX0_within 1 = .ok (.lookupswitch 226 #[(10, 91), (11, 98), (12, 115), (20, 129), (30, 141), (40, 152), (50, 173), (51, 183), (60, 194), (70, 208)], 91) := by decide +kernel
theorem dX0_within_92 : decode cX0_within 92 = .ok (.iload_n 2, 1) := by decide +kernel
theorem dX0_within_93 : decode cX0_within 93 = .ok (.aload_n 0, 1) := by decide +kernel
theorem dX0_within_94 : decode cX0_within 94 = .ok (.getfield 32, 3) := by decide +kernel
theorem dX0_within_97 : decode cX0_within 97 = .ok (.iadd, 1) := by decide +kernel
theorem dX0_within_98 : decode cX0_within 98 = .ok (.ireturn, 1) := by decide +kernel
theorem dX0_within_99 : decode cX0_within 99 = .ok (.aload_n 0, 1) := by decide +kernel
theorem dX0_within_100 : decode cX0_within 100 = .ok (.iconst 0, 1) := by decide +kernel
theorem dX0_within_101 : decode cX0_within 101 = .ok (.aload_n 0, 1) := by decide +kernel
theorem dX0_within_102 : decode cX0_within 102 = .ok (.getfield 24, 3) := by decide +kernel
theorem dX0_within_105 : decode cX0_within 105 = .ok (.iload_n 2, 1) := by decide +kernel
theorem dX0_within_106 : decode cX0_within 106 = .ok (.iload_n 3, 1) := by decide +kernel
theorem dX0_within_107 : decode cX0_within 107 = .ok (.invokevirtual 35, 3) := by decide +kernel
theorem dX0_within_110 : decode cX0_within 110 = .ok (.aload_n 0, 1) := by decide +kernel
theorem dX0_within_111 : decode cX0_within 111 = .ok (.getfield 30, 3) := by decide +kernel
theorem dX0_within_114 : decode cX0_within 114 = .ok (.isub, 1) := by decide +kernel
theorem dX0_within_115 : decode cX0_within 115 = .ok (.ireturn, 1) := by decide +kernel
theorem dX0_within_116 : decode cX0_within 116 = .ok (.aload_n 0, 1) := by decide +kernel
theorem dX0_within_117 : decode cX0_within 117 = .ok (.iconst 1, 1) := by decide +kernel
theorem dX0_within_118 : decode cX0_within 118 = .ok (.aload_n 0, 1) := by decide +kernel
theorem dX0_within_119 : decode cX0_within 119 = .ok (.getfield 24, 3) := by decide +kernel
theorem dX0_within_122 : decode cX0_within 122 = .ok (.iload_n 2, 1) := by decide +kernel
theorem dX0_within_123 : decode cX0_within 123 = .ok (.iload_n 3, 1) := by decide +kernel
theorem dX0_within_124 : decode cX0_within 124 = .ok (.invokevirtual 35, 3) := by decide +kernel
theorem dX0_within_127 : decode cX0_within 127 = .ok (.iconst 2, 1) := by decide +kernel
theorem dX0_within_128 : decode cX0_within 128 = .ok (.imul, 1) := by decide +kernel
theorem dX0_within_129 : decode cX0_within 129 = .ok (.ireturn, 1) := by decide +kernel
theorem dX0_within_130 : decode cX0_within 130 = .ok (.aload_n 0, 1) := by decide +kernel
theorem dX0_within_131 : decode cX0_within 131 = .ok (.iconst 1, 1) := by decide +kernel
theorem dX0_within_132 : decode cX0_within 132 = .ok (.iconst 0, 1) := by decide +kernel
theorem dX0_within_133 : decode cX0_within 133 = .ok (.iload_n 2, 1) := by decide +kernel
theorem dX0_within_134 : decode cX0_within 134 = .ok (.iload_n 3, 1) := by decide +kernel
theorem dX0_within_135 : decode cX0_within 135 = .ok (.invokevirtual 35, 3) := by decide +kernel
theorem dX0_within_138 : decode cX0_within 138 = .ok (.bipush 6, 2) := by decide +kernel
theorem dX0_within_140 : decode cX0_within 140 = .ok (.ixor, 1) := by decide +kernel
theorem dX0_within_141 : decode cX0_within 141 = .ok (.ireturn, 1) := by decide +kernel
theorem dX0_within_142 : decode cX0_within 142 = .ok (.aload_n 0, 1) := by decide +kernel
theorem dX0_within_143 : decode cX0_within 143 = .ok (.iconst 0, 1) := by decide +kernel
theorem dX0_within_144 : decode cX0_within 144 = .ok (.iconst 0, 1) := by decide +kernel
theorem dX0_within_145 : decode cX0_within 145 = .ok (.iload_n 2, 1) := by decide +kernel
theorem dX0_within_146 : decode cX0_within 146 = .ok (.iconst 3, 1) := by decide +kernel
theorem dX0_within_147 : decode cX0_within 147 = .ok (.imul, 1) := by decide +kernel
theorem dX0_within_148 : decode cX0_within 148 = .ok (.iload_n 3, 1) := by decide +kernel
theorem dX0_within_149 : decode cX0_within 149 = .ok (.invokevirtual 35, 3) := by decide +kernel
theorem dX0_within_152 : decode cX0_within 152 = .ok (.ireturn, 1) := by decide +kernel
theorem dX0_within_153 : decode cX0_within 153 = .ok (.aload_n 0, 1) := by decide +kernel
theorem dX0_within_154 : decode cX0_within 154 = .ok (.iconst 2, 1) := by decide +kernel
theorem dX0_within_155 : decode cX0_within 155 = .ok (.iconst 0, 1) := by decide +kernel
theorem dX0_within_156 : decode cX0_within 156 = .ok (.iload_n 2, 1) := by decide +kernel
theorem dX0_within_157 : decode cX0_within 157 = .ok (.iload_n 3, 1) := by decide +kernel
theorem dX0_within_158 : decode cX0_within 158 = .ok (.invokevirtual 35, 3) := by decide +kernel
theorem dX0_within_161 : decode cX0_within 161 = .ok (.aload_n 0, 1) := by decide +kernel
theorem dX0_within_162 : decode cX0_within 162 = .ok (.iconst 1, 1) := by decide +kernel
theorem dX0_within_163 : decode cX0_within 163 = .ok (.aload_n 0, 1) := by decide +kernel
theorem dX0_within_164 : decode cX0_within 164 = .ok (.getfield 24, 3) := by decide +kernel
theorem dX0_within_167 : decode cX0_within 167 = .ok (.iconst 1, 1) := by decide +kernel
theorem dX0_within_168 : decode cX0_within 168 = .ok (.iload_n 3, 1) := by decide +kernel
theorem dX0_within_169 : decode cX0_within 169 = .ok (.invokevirtual 35, 3) := by decide +kernel
theorem dX0_within_172 : decode cX0_within 172 = .ok (.iadd, 1) := by decide +kernel
theorem dX0_within_173 : decode cX0_within 173 = .ok (.ireturn, 1) := by decide +kernel
theorem dX0_within_174 : decode cX0_within 174 = .ok (.aload_n 0, 1) := by decide +kernel
theorem dX0_within_175 : decode cX0_within 175 = .ok (.iconst 0, 1) := by decide +kernel
theorem dX0_within_176 : decode cX0_within 176 = .ok (.iconst 1, 1) := by decide +kernel
theorem dX0_within_177 : decode cX0_within 177 = .ok (.iload_n 2, 1) := by decide +kernel
theorem dX0_within_178 : decode cX0_within 178 = .ok (.iload_n 3, 1) := by decide +kernel
theorem dX0_within_179 : decode cX0_within 179 = .ok (.invokevirtual 35, 3) := by decide +kernel
theorem dX0_within_182 : decode cX0_within 182 = .ok (.ineg, 1) := by decide +kernel
theorem dX0_within_183 : decode cX0_within 183 = .ok (.ireturn, 1) := by decide +kernel
theorem dX0_within_184 : decode cX0_within 184 = .ok (.aload_n 0, 1) := by decide +kernel
theorem dX0_within_185 : decode cX0_within 185 = .ok (.iconst 1, 1) := by decide +kernel
theorem dX0_within_186 : decode cX0_within 186 = .ok (.iconst 1, 1) := by decide +kernel
theorem dX0_within_187 : decode cX0_within 187 = .ok (.iload_n 2, 1) := by decide +kernel
theorem dX0_within_188 : decode cX0_within 188 = .ok (.iconst 1, 1) := by decide +kernel
theorem dX0_within_189 : decode cX0_within 189 = .ok (.iadd, 1) := by decide +kernel
theorem dX0_within_190 : decode cX0_within 190 = .ok (.iload_n 3, 1) := by decide +kernel
theorem dX0_within_191 : decode cX0_within 191 = .ok (.invokevirtual 35, 3) := by decide +kernel
theorem dX0_within_194 : decode cX0_within 194 = .ok (.ireturn, 1) := by decide +kernel
theorem dX0_within_195 : decode cX0_within 195 = .ok (.aload_n 0, 1) := by decide +kernel
theorem dX0_within_196 : decode cX0_within 196 = .ok (.iconst 2, 1) := by decide +kernel
theorem dX0_within_197 : decode cX0_within 197 = .ok (.iconst 2, 1) := by decide +kernel
theorem dX0_within_198 : decode cX0_within 198 = .ok (.iload_n 2, 1) := by decide +kernel
theorem dX0_within_199 : decode cX0_within 199 = .ok (.aload_n 0, 1) := by decide +kernel
theorem dX0_within_200 : decode cX0_within 200 = .ok (.getfield 32, 3) := by decide +kernel
theorem dX0_within_203 : decode cX0_within 203 = .ok (.isub, 1) := by decide +kernel
theorem dX0_within_204 : decode cX0_within 204 = .ok (.iload_n 3, 1) := by decide +kernel
theorem dX0_within_205 : decode cX0_within 205 = .ok (.invokevirtual 35, 3) := by decide +kernel
theorem dX0_within_208 : decode cX0_within 208 = .ok (.ireturn, 1) := by decide +kernel
theorem dX0_within_209 : decode cX0_within 209 = .ok (.aload_n 0, 1) := by decide +kernel
theorem dX0_within_210 : decode cX0_within 210 = .ok (.iconst 1, 1) := by decide +kernel
theorem dX0_within_211 : decode cX0_within 211 = .ok (.iconst 3, 1) := by decide +kernel
theorem dX0_within_212 : decode cX0_within 212 = .ok (.iload_n 2, 1) := by decide +kernel
theorem dX0_within_213 : decode cX0_within 213 = .ok (.iload_n 3, 1) := by decide +kernel
theorem dX0_within_214 : decode cX0_within 214 = .ok (.invokevirtual 35, 3) := by decide +kernel
theorem dX0_within_217 : decode cX0_within 217 = .ok (.aload_n 0, 1) := by decide +kernel
theorem dX0_within_218 : decode cX0_within 218 = .ok (.iconst 0, 1) := by decide +kernel
theorem dX0_within_219 : decode cX0_within 219 = .ok (.iconst 3, 1) := by decide +kernel
theorem dX0_within_220 : decode cX0_within 220 = .ok (.iconst 2, 1) := by decide +kernel
theorem dX0_within_221 : decode cX0_within 221 = .ok (.iload_n 3, 1) := by decide +kernel
theorem dX0_within_222 : decode cX0_within 222 = .ok (.invokevirtual 35, 3) := by decide +kernel
theorem dX0_within_225 : decode cX0_within 225 = .ok (.iadd, 1) := by decide +kernel
theorem dX0_within_226 : decode cX0_within 226 = .ok (.ireturn, 1) := by decide +kernel
theorem dX0_within_227 : decode cX0_within 227 = .ok (.aload_n 0, 1) := by decide +kernel
theorem dX0_within_228 : decode cX0_within 228 = .ok (.iconst 0, 1) := by decide +kernel
theorem dX0_within_229 : decode cX0_within 229 = .ok (.iconst 3, 1) := by decide +kernel
theorem dX0_within_230 : decode cX0_within 230 = .ok (.iload_n 2, 1) := by decide +kernel
theorem dX0_within_231 : decode cX0_within 231 = .ok (.iload_n 3, 1) := by decide +kernel
theorem dX0_within_232 : decode cX0_within 232 = .ok (.invokevirtual 35, 3) := by decide +kernel
theorem dX0_within_235 : decode cX0_within 235 = .ok (.aload_n 0, 1) := by decide +kernel
theorem dX0_within_236 : decode cX0_within 236 = .ok (.getfield 30, 3) := by decide +kernel
theorem dX0_within_239 : decode cX0_within 239 = .ok (.ixor, 1) := by decide +kernel
theorem dX0_within_240 : decode cX0_within 240 = .ok (.ireturn, 1) := by decide +kernel
theorem dX1_init_0 : decode cX1_init 0 = .ok (.aload_n 0, 1) := by decide +kernel
theorem dX1_init_1 : decode cX1_init 1 = .ok (.invokespecial 1, 3) := by decide +kernel
theorem dX1_init_4 : decode cX1_init 4 = .ok (.aload_n 0, 1) := by decide +kernel
theorem dX1_init_5 : decode cX1_init 5 = .ok (.aload_n 1, 1) := by decide +kernel
theorem dX1_init_6 : decode cX1_init 6 = .ok (.putfield 7, 3) := by decide +kernel
theorem dX1_init_9 : decode cX1_init 9 = .ok (.aload_n 0, 1) := by decide +kernel
theorem dX1_init_10 : decode cX1_init 10 = .ok (.iload_n 2, 1) := by decide +kernel
theorem dX1_init_11 : decode cX1_init 11 = .ok (.putfield 13, 3) := by decide +kernel
theorem dX1_init_14 : decode cX1_init 14 = .ok (.aload_n 0, 1) := by decide +kernel
theorem dX1_init_15 : decode cX1_init 15 = .ok (.iload_n 3, 1) := by decide +kernel
theorem dX1_init_16 : decode cX1_init 16 = .ok (.putfield 17, 3) := by decide +kernel
theorem dX1_init_19 : decode cX1_init 19 = .ok (.return_, 1) := by decide +kernel
theorem dX1_code_0 : decode cX1_code 0 = .ok (.iload_n 0, 1) := by decide +kernel
theorem dX1_code_1 : decode cX1_code 1 = .ok (.bipush 16, 2) := by decide +kernel
theorem dX1_code_3 : decode cX1_code 3 = .ok (.ishl, 1) := by decide +kernel
theorem dX1_code_4 : decode cX1_code 4 = .ok (.iload_n 1, 1) := by decide +kernel
theorem dX1_code_5 : decode cX1_code 5 = .ok (.bipush 8, 2) := by decide +kernel
theorem dX1_code_7 : decode cX1_code 7 = .ok (.ishl, 1) := by decide +kernel
theorem dX1_code_8 : decode cX1_code 8 = .ok (.ior, 1) := by decide +kernel
theorem dX1_code_9 : decode cX1_code 9 = .ok (.iload_n 2, 1) := by decide +kernel
theorem dX1_code_10 : decode cX1_code 10 = .ok (.ior, 1) := by decide +kernel
theorem dX1_code_11 : decode cX1_code 11 = .ok (.ireturn, 1) := by decide +kernel
theorem dX1_rain_0 : decode cX1_rain 0 = .ok (.iconst 0, 1) := by decide +kernel
theorem dX1_rain_1 : decode cX1_rain 1 = .ok (.istore_n 3, 1) := by decide +kernel
theorem dX1_rain_2 : decode cX1_rain 2 = .ok (.iconst 0, 1) := by decide +kernel
theorem dX1_rain_3 : decode cX1_rain 3 = .ok (.istore 4, 2) := by decide +kernel
theorem dX1_rain_5 : decode cX1_rain 5 = .ok (.iconst 0, 1) := by decide +kernel
theorem dX1_rain_6 : decode cX1_rain 6 = .ok (.istore 5, 2) := by decide +kernel
theorem dX1_rain_8 : decode cX1_rain 8 = .ok (.iload 5, 2) := by decide +kernel
theorem dX1_rain_10 : decode cX1_rain 10 = .ok (.aload_n 0, 1) := by decide +kernel
theorem dX1_rain_11 : decode cX1_rain 11 = .ok (.getfield 7, 3) := by decide +kernel
theorem dX1_rain_14 : decode cX1_rain 14 = .ok (.arraylength, 1) := by decide +kernel
theorem dX1_rain_15 : decode cX1_rain 15 = .ok (.if_icmp .ge 224, 3) := by decide +kernel
theorem dX1_rain_18 : decode cX1_rain 18 = .ok (.aload_n 1, 1) := by decide +kernel
theorem dX1_rain_19 : decode cX1_rain 19 = .ok (.aload_n 0, 1) := by decide +kernel
theorem dX1_rain_20 : decode cX1_rain 20 = .ok (.getfield 7, 3) := by decide +kernel
theorem dX1_rain_23 : decode cX1_rain 23 = .ok (.iload 5, 2) := by decide +kernel
theorem dX1_rain_25 : decode cX1_rain 25 = .ok (.iaload, 1) := by decide +kernel
theorem dX1_rain_26 : decode cX1_rain 26 = .ok (.bipush 8, 2) := by decide +kernel
theorem dX1_rain_28 : decode cX1_rain 28 = .ok (.ishr, 1) := by decide +kernel
theorem dX1_rain_29 : decode cX1_rain 29 = .ok (.sipush 255, 3) := by decide +kernel
theorem dX1_rain_32 : decode cX1_rain 32 = .ok (.iand, 1) := by decide +kernel
theorem dX1_rain_33 : decode cX1_rain 33 = .ok (.iload_n 2, 1) := by decide +kernel
theorem dX1_rain_34 : decode cX1_rain 34 = .ok (.invokevirtual 20, 3) := by decide +kernel
theorem dX1_rain_37 : decode cX1_rain 37 = .ok (.istore 6, 2) := by decide +kernel
theorem dX1_rain_39 : decode cX1_rain 39 = .ok (.aload_n 0, 1) := by decide +kernel
theorem dX1_rain_40 : decode cX1_rain 40 = .ok (.getfield 7, 3) := by decide +kernel
theorem dX1_rain_43 : decode cX1_rain 43 = .ok (.iload 5, 2) := by decide +kernel
theorem dX1_rain_45 : decode cX1_rain 45 = .ok (.iaload, 1) := by decide +kernel
theorem dX1_rain_46 : decode cX1_rain 46 = .ok (.sipush 255, 3) := by decide +kernel
theorem dX1_rain_49 : decode cX1_rain 49 = .ok (.iand, 1) := by decide +kernel
theorem dX1_rain_50 : decode cX1_rain 50 = .ok (.istore 7, 2) := by decide +kernel
theorem dX1_rain_52 : decode cX1_rain 52 = .ok (.aload_n 0, 1) := by decide +kernel
theorem dX1_rain_53 : decode cX1_rain 53 = .ok (.getfield 7, 3) := by decide +kernel
theorem dX1_rain_56 : decode cX1_rain 56 = .ok (.iload 5, 2) := by decide +kernel
theorem dX1_rain_58 : decode cX1_rain 58 = .ok (.iaload, 1) := by decide +kernel
theorem dX1_rain_59 : decode cX1_rain 59 = .ok (.bipush 16, 2) := by decide +kernel
theorem dX1_rain_61 : decode cX1_rain 61 = .ok (.ishr, 1) := by decide +kernel
theorem dX1_rain_62 : decode cX1_rain 62 = .ok (.tableswitch 160 0 6 #[42, 64, 86, 108, 123, 137, 146], 42) := by decide +kernel
theorem dX1_rain_104 : decode cX1_rain 104 = .ok (.iload 4, 2) := by decide +kernel
theorem dX1_rain_106 : decode cX1_rain 106 = .ok (.iconst 1, 1) := by decide +kernel
theorem dX1_rain_107 : decode cX1_rain 107 = .ok (.ishl, 1) := by decide +kernel
theorem dX1_rain_108 : decode cX1_rain 108 = .ok (.iload 6, 2) := by decide +kernel
theorem dX1_rain_110 : decode cX1_rain 110 = .ok (.iload 7, 2) := by decide +kernel
theorem dX1_rain_112 : decode cX1_rain 112 = .ok (.if_icmp .ge 7, 3) := by decide +kernel
theorem dX1_rain_115 : decode cX1_rain 115 = .ok (.iconst 1, 1) := by decide +kernel
theorem dX1_rain_116 : decode cX1_rain 116 = .ok (.goto 4, 3) := by decide +kernel
theorem dX1_rain_119 : decode cX1_rain 119 = .ok (.iconst 0, 1) := by decide +kernel
theorem dX1_rain_120 : decode cX1_rain 120 = .ok (.ior, 1) := by decide +kernel
theorem dX1_rain_121 : decode cX1_rain 121 = .ok (.istore 4, 2) := by decide +kernel
theorem dX1_rain_123 : decode cX1_rain 123 = .ok (.goto 110, 3) := by decide +kernel
theorem dX1_rain_126 : decode cX1_rain 126 = .ok (.iload 4, 2) := by decide +kernel
theorem dX1_rain_128 : decode cX1_rain 128 = .ok (.iconst 1, 1) := by decide +kernel
theorem dX1_rain_129 : decode cX1_rain 129 = .ok (.ishl, 1) := by decide +kernel
theorem dX1_rain_130 : decode cX1_rain 130 = .ok (.iload 6, 2) := by decide +kernel
theorem dX1_rain_132 : decode cX1_rain 132 = .ok (.iload 7, 2) := by decide +kernel
theorem dX1_rain_134 : decode cX1_rain 134 = .ok (.if_icmp .ne 7, 3) := by decide +kernel
theorem dX1_rain_137 : decode cX1_rain 137 = .ok (.iconst 1, 1) := by decide +kernel
theorem dX1_rain_138 : decode cX1_rain 138 = .ok (.goto 4, 3) := by decide +kernel
theorem dX1_rain_141 : decode cX1_rain 141 = .ok (.iconst 0, 1) := by decide +kernel
theorem dX1_rain_142 : decode cX1_rain 142 = .ok (.ior, 1) := by decide +kernel
theorem dX1_rain_143 : decode cX1_rain 143 = .ok (.istore 4, 2) := by decide +kernel
theorem dX1_rain_145 : decode cX1_rain 145 = .ok (.goto 88, 3) := by decide +kernel
theorem dX1_rain_148 : decode cX1_rain 148 = .ok (.iload 4, 2) := by decide +kernel
theorem dX1_rain_150 : decode cX1_rain 150 = .ok (.iconst 1, 1) := by decide +kernel
theorem dX1_rain_151 : decode cX1_rain 151 = .ok (.ishl, 1) := by decide +kernel
theorem dX1_rain_152 : decode cX1_rain 152 = .ok (.iload 6, 2) := by decide +kernel
theorem dX1_rain_154 : decode cX1_rain 154 = .ok (.iload 7, 2) := by decide +kernel
theorem dX1_rain_156 : decode cX1_rain 156 = .ok (.if_icmp .le 7, 3) := by decide +kernel
theorem dX1_rain_159 : decode cX1_rain 159 = .ok (.iconst 1, 1) := by decide +kernel
theorem dX1_rain_160 : decode cX1_rain 160 = .ok (.goto 4, 3) := by decide +kernel
theorem dX1_rain_163 : decode cX1_rain 163 = .ok (.iconst 0, 1) := by decide +kernel
theorem dX1_rain_164 : decode cX1_rain 164 = .ok (.ior, 1) := by decide +kernel
theorem dX1_rain_165 : decode cX1_rain 165 = .ok (.istore 4, 2) := by decide +kernel
theorem dX1_rain_167 : decode cX1_rain 167 = .ok (.goto 66, 3) := by decide +kernel
theorem dX1_rain_170 : decode cX1_rain 170 = .ok (.iload 4, 2) := by decide +kernel
theorem dX1_rain_172 : decode cX1_rain 172 = .ok (.iconst 1, 1) := by decide +kernel
theorem dX1_rain_173 : decode cX1_rain 173 = .ok (.ishr, 1) := by decide +kernel
theorem dX1_rain_174 : decode cX1_rain 174 = .ok (.iload 4, 2) := by decide +kernel
theorem dX1_rain_176 : decode cX1_rain 176 = .ok (.bipush (-2), 2) := by decide +kernel
theorem dX1_rain_178 : decode cX1_rain 178 = .ok (.ior, 1) := by decide +kernel
theorem dX1_rain_179 : decode cX1_rain 179 = .ok (.iand, 1) := by decide +kernel
theorem dX1_rain_180 : decode cX1_rain 180 = .ok (.istore 4, 2) := by decide +kernel
theorem dX1_rain_182 : decode cX1_rain 182 = .ok (.goto 51, 3) := by decide +kernel
theorem dX1_rain_185 : decode cX1_rain 185 = .ok (.iload 4, 2) := by decide +kernel
theorem dX1_rain_187 : decode cX1_rain 187 = .ok (.iconst 1, 1) := by decide +kernel
theorem dX1_rain_188 : decode cX1_rain 188 = .ok (.ishr, 1) := by decide +kernel
theorem dX1_rain_189 : decode cX1_rain 189 = .ok (.iload 4, 2) := by decide +kernel
theorem dX1_rain_191 : decode cX1_rain 191 = .ok (.iconst 1, 1) := by decide +kernel
theorem dX1_rain_192 : decode cX1_rain 192 = .ok (.iand, 1) := by decide +kernel
theorem dX1_rain_193 : decode cX1_rain 193 = .ok (.ior, 1) := by decide +kernel
theorem dX1_rain_194 : decode cX1_rain 194 = .ok (.istore 4, 2) := by decide +kernel
theorem dX1_rain_196 : decode cX1_rain 196 = .ok (.goto 37, 3) := by decide +kernel
theorem dX1_rain_199 : decode cX1_rain 199 = .ok (.iload 4, 2) := by decide +kernel
theorem dX1_rain_201 : decode cX1_rain 201 = .ok (.iconst 1, 1) := by decide +kernel
theorem dX1_rain_202 : decode cX1_rain 202 = .ok (.ixor, 1) := by decide +kernel
theorem dX1_rain_203 : decode cX1_rain 203 = .ok (.istore 4, 2) := by decide +kernel
theorem dX1_rain_205 : decode cX1_rain 205 = .ok (.goto 28, 3) := by decide +kernel
theorem dX1_rain_208 : decode cX1_rain 208 = .ok (.iload_n 3, 1) := by decide +kernel
theorem dX1_rain_209 : decode cX1_rain 209 = .ok (.iload 4, 2) := by decide +kernel
theorem dX1_rain_211 : decode cX1_rain 211 = .ok (.iload 7, 2) := by decide +kernel
theorem dX1_rain_213 : decode cX1_rain 213 = .ok (.imul, 1) := by decide +kernel
theorem dX1_rain_214 : decode cX1_rain 214 = .ok (.iadd, 1) := by decide +kernel
theorem dX1_rain_215 : decode cX1_rain 215 = .ok (.istore_n 3, 1) := by decide +kernel
theorem dX1_rain_216 : decode cX1_rain 216 = .ok (.iconst 0, 1) := by decide +kernel
theorem dX1_rain_217 : decode cX1_rain 217 = .ok (.istore 4, 2) := by decide +kernel
theorem dX1_rain_219 : decode cX1_rain 219 = .ok (.goto 14, 3) := by decide +kernel
theorem dX1_rain_222 : decode cX1_rain 222 = .ok (.iload_n 3, 1) := by decide +kernel
theorem dX1_rain_223 : decode cX1_rain 223 = .ok (.iload 4, 2) := by decide +kernel
theorem dX1_rain_225 : decode cX1_rain 225 = .ok (.iload 7, 2) := by decide +kernel
theorem dX1_rain_227 : decode cX1_rain 227 = .ok (.imul, 1) := by decide +kernel
theorem dX1_rain_228 : decode cX1_rain 228 = .ok (.isub, 1) := by decide +kernel
theorem dX1_rain_229 : decode cX1_rain 229 = .ok (.istore_n 3, 1) := by decide +kernel
theorem dX1_rain_230 : decode cX1_rain 230 = .ok (.iconst 0, 1) := by decide +kernel
theorem dX1_rain_231 : decode cX1_rain 231 = .ok (.istore 4, 2) := by decide +kernel
theorem dX1_rain_233 : decode cX1_rain 233 = .ok (.iinc 5 1, 3) := by decide +kernel
theorem dX1_rain_236 : decode cX1_rain 236 = .ok (.goto (-228), 3) := by decide +kernel
theorem dX1_rain_239 : decode cX1_rain 239 = .ok (.iload_n 3, 1) := by decide +kernel
theorem dX1_rain_240 : decode cX1_rain 240 = .ok (.ireturn, 1) := by decide +kernel
theorem dX2_init_0 : decode cX2_init 0 = .ok (.aload_n 0, 1) := by decide +kernel
theorem dX2_init_1 : decode cX2_init 1 = .ok (.invokespecial 3, 3) := by decide +kernel
theorem dX2_init_4 : decode cX2_init 4 = .ok (.aload_n 0, 1) := by decide +kernel
theorem dX2_init_5 : decode cX2_init 5 = .ok (.iload_n 1, 1) := by decide +kernel
theorem dX2_init_6 : decode cX2_init 6 = .ok (.newarray .int, 2) := by decide +kernel
theorem dX2_init_8 : decode cX2_init 8 = .ok (.putfield 9, 3) := by decide +kernel
theorem dX2_init_11 : decode cX2_init 11 = .ok (.aload_n 0, 1) := by decide +kernel
theorem dX2_init_12 : decode cX2_init 12 = .ok (.iload_n 1, 1) := by decide +kernel
theorem dX2_init_13 : decode cX2_init 13 = .ok (.newarray .int, 2) := by decide +kernel
theorem dX2_init_15 : decode cX2_init 15 = .ok (.putfield 15, 3) := by decide +kernel
theorem dX2_init_18 : decode cX2_init 18 = .ok (.return_, 1) := by decide +kernel
theorem dX2_empty_0 : decode cX2_empty 0 = .ok (.aload_n 0, 1) := by decide +kernel
theorem dX2_empty_1 : decode cX2_empty 1 = .ok (.iconst 0, 1) := by decide +kernel
theorem dX2_empty_2 : decode cX2_empty 2 = .ok (.putfield 18, 3) := by decide +kernel
theorem dX2_empty_5 : decode cX2_empty 5 = .ok (.iconst 0, 1) := by decide +kernel
theorem dX2_empty_6 : decode cX2_empty 6 = .ok (.ireturn, 1) := by decide +kernel
theorem dX2_add_0 : decode cX2_add 0 = .ok (.aload_n 0, 1) := by decide +kernel
theorem dX2_add_1 : decode cX2_add 1 = .ok (.getfield 18, 3) := by decide +kernel
theorem dX2_add_4 : decode cX2_add 4 = .ok (.aload_n 0, 1) := by decide +kernel
theorem dX2_add_5 : decode cX2_add 5 = .ok (.getfield 9, 3) := by decide +kernel
theorem dX2_add_8 : decode cX2_add 8 = .ok (.arraylength, 1) := by decide +kernel
theorem dX2_add_9 : decode cX2_add 9 = .ok (.if_icmp .lt 6, 3) := by decide +kernel
theorem dX2_add_12 : decode cX2_add 12 = .ok (.bipush (-4), 2) := by decide +kernel
theorem dX2_add_14 : decode cX2_add 14 = .ok (.ireturn, 1) := by decide +kernel
theorem dX2_add_15 : decode cX2_add 15 = .ok (.aload_n 0, 1) := by decide +kernel
theorem dX2_add_16 : decode cX2_add 16 = .ok (.getfield 9, 3) := by decide +kernel
theorem dX2_add_19 : decode cX2_add 19 = .ok (.aload_n 0, 1) := by decide +kernel
theorem dX2_add_20 : decode cX2_add 20 = .ok (.getfield 18, 3) := by decide +kernel
theorem dX2_add_23 : decode cX2_add 23 = .ok (.iload_n 1, 1) := by decide +kernel
theorem dX2_add_24 : decode cX2_add 24 = .ok (.iastore, 1) := by decide +kernel
theorem dX2_add_25 : decode cX2_add 25 = .ok (.aload_n 0, 1) := by decide +kernel
theorem dX2_add_26 : decode cX2_add 26 = .ok (.getfield 15, 3) := by decide +kernel
theorem dX2_add_29 : decode cX2_add 29 = .ok (.aload_n 0, 1) := by decide +kernel
theorem dX2_add_30 : decode cX2_add 30 = .ok (.getfield 18, 3) := by decide +kernel
theorem dX2_add_33 : decode cX2_add 33 = .ok (.iload_n 2, 1) := by decide +kernel
theorem dX2_add_34 : decode cX2_add 34 = .ok (.iastore, 1) := by decide +kernel
theorem dX2_add_35 : decode cX2_add 35 = .ok (.aload_n 0, 1) := by decide +kernel
theorem dX2_add_36 : decode cX2_add 36 = .ok (.dup, 1) := by decide +kernel
theorem dX2_add_37 : decode cX2_add 37 = .ok (.getfield 18, 3) := by decide +kernel
theorem dX2_add_40 : decode cX2_add 40 = .ok (.iconst 1, 1) := by decide +kernel
theorem dX2_add_41 : decode cX2_add 41 = .ok (.iadd, 1) := by decide +kernel
theorem dX2_add_42 : decode cX2_add 42 = .ok (.putfield 18, 3) := by decide +kernel
theorem dX2_add_45 : decode cX2_add 45 = .ok (.aload_n 0, 1) := by decide +kernel
theorem dX2_add_46 : decode cX2_add 46 = .ok (.getfield 18, 3) := by decide +kernel
theorem dX2_add_49 : decode cX2_add 49 = .ok (.ireturn, 1) := by decide +kernel
theorem dX2_become_0 : decode cX2_become 0 = .ok (.aload_n 1, 1) := by decide +kernel
theorem dX2_become_1 : decode cX2_become 1 = .ok (.getfield 9, 3) := by decide +kernel
theorem dX2_become_4 : decode cX2_become 4 = .ok (.iconst 0, 1) := by decide +kernel
theorem dX2_become_5 : decode cX2_become 5 = .ok (.aload_n 0, 1) := by decide +kernel
theorem dX2_become_6 : decode cX2_become 6 = .ok (.getfield 9, 3) := by decide +kernel
theorem dX2_become_9 : decode cX2_become 9 = .ok (.iconst 0, 1) := by decide +kernel
theorem dX2_become_10 : decode cX2_become 10 = .ok (.aload_n 0, 1) := by decide +kernel
theorem dX2_become_11 : decode cX2_become 11 = .ok (.getfield 9, 3) := by decide +kernel
theorem dX2_become_14 : decode cX2_become 14 = .ok (.arraylength, 1) := by decide +kernel
theorem dX2_become_15 : decode cX2_become 15 = .ok (.invokestatic 22, 3) := by decide +kernel
theorem dX2_become_18 : decode cX2_become 18 = .ok (.aload_n 1, 1) := by decide +kernel
theorem dX2_become_19 : decode cX2_become 19 = .ok (.getfield 15, 3) := by decide +kernel
theorem dX2_become_22 : decode cX2_become 22 = .ok (.iconst 0, 1) := by decide +kernel
theorem dX2_become_23 : decode cX2_become 23 = .ok (.aload_n 0, 1) := by decide +kernel
theorem dX2_become_24 : decode cX2_become 24 = .ok (.getfield 15, 3) := by decide +kernel
theorem dX2_become_27 : decode cX2_become 27 = .ok (.iconst 0, 1) := by decide +kernel
theorem dX2_become_28 : decode cX2_become 28 = .ok (.aload_n 0, 1) := by decide +kernel
theorem dX2_become_29 : decode cX2_become 29 = .ok (.getfield 15, 3) := by decide +kernel
theorem dX2_become_32 : decode cX2_become 32 = .ok (.arraylength, 1) := by decide +kernel
theorem dX2_become_33 : decode cX2_become 33 = .ok (.invokestatic 22, 3) := by decide +kernel
theorem dX2_become_36 : decode cX2_become 36 = .ok (.aload_n 0, 1) := by decide +kernel
theorem dX2_become_37 : decode cX2_become 37 = .ok (.aload_n 1, 1) := by decide +kernel
theorem dX2_become_38 : decode cX2_become 38 = .ok (.getfield 18, 3) := by decide +kernel
theorem dX2_become_41 : decode cX2_become 41 = .ok (.putfield 18, 3) := by decide +kernel
theorem dX2_become_44 : decode cX2_become 44 = .ok (.return_, 1) := by decide +kernel
theorem dX3_init_0 : decode cX3_init 0 = .ok (.aload_n 0, 1) := by decide +kernel
theorem dX3_init_1 : decode cX3_init 1 = .ok (.invokespecial 3, 3) := by decide +kernel
theorem dX3_init_4 : decode cX3_init 4 = .ok (.aload_n 0, 1) := by decide +kernel
theorem dX3_init_5 : decode cX3_init 5 = .ok (.bipush 100, 2) := by decide +kernel
theorem dX3_init_7 : decode cX3_init 7 = .ok (.newarray .byte, 2) := by decide +kernel
theorem dX3_init_9 : decode cX3_init 9 = .ok (.putfield 11, 3) := by decide +kernel
theorem dX3_init_12 : decode cX3_init 12 = .ok (.aload_n 0, 1) := by decide +kernel
theorem dX3_init_13 : decode cX3_init 13 = .ok (.bipush 100, 2) := by decide +kernel
theorem dX3_init_15 : decode cX3_init 15 = .ok (.newarray .int, 2) := by decide +kernel
theorem dX3_init_17 : decode cX3_init 17 = .ok (.putfield 15, 3) := by decide +kernel
theorem dX3_init_20 : decode cX3_init 20 = .ok (.return_, 1) := by decide +kernel
theorem dX3_append_0 : decode cX3_append 0 = .ok (.aload_n 0, 1) := by decide +kernel
theorem dX3_append_1 : decode cX3_append 1 = .ok (.getfield 19, 3) := by decide +kernel
theorem dX3_append_4 : decode cX3_append 4 = .ok (.bipush 100, 2) := by decide +kernel
theorem dX3_append_6 : decode cX3_append 6 = .ok (.if_icmp .lt 6, 3) := by decide +kernel
theorem dX3_append_9 : decode cX3_append 9 = .ok (.bipush (-4), 2) := by decide +kernel
theorem dX3_append_11 : decode cX3_append 11 = .ok (.ireturn, 1) := by decide +kernel
theorem dX3_append_12 : decode cX3_append 12 = .ok (.aload_n 0, 1) := by decide +kernel
theorem dX3_append_13 : decode cX3_append 13 = .ok (.getfield 11, 3) := by decide +kernel
theorem dX3_append_16 : decode cX3_append 16 = .ok (.aload_n 0, 1) := by decide +kernel
theorem dX3_append_17 : decode cX3_append 17 = .ok (.getfield 19, 3) := by decide +kernel
theorem dX3_append_20 : decode cX3_append 20 = .ok (.iload_n 1, 1) := by decide +kernel
theorem dX3_append_21 : decode cX3_append 21 = .ok (.i2b, 1) := by decide +kernel
theorem dX3_append_22 : decode cX3_append 22 = .ok (.bastore, 1) := by decide +kernel
theorem dX3_append_23 : decode cX3_append 23 = .ok (.aload_n 0, 1) := by decide +kernel
theorem dX3_append_24 : decode cX3_append 24 = .ok (.dup, 1) := by decide +kernel
theorem dX3_append_25 : decode cX3_append 25 = .ok (.getfield 19, 3) := by decide +kernel
theorem dX3_append_28 : decode cX3_append 28 = .ok (.iconst 1, 1) := by decide +kernel
theorem dX3_append_29 : decode cX3_append 29 = .ok (.iadd, 1) := by decide +kernel
theorem dX3_append_30 : decode cX3_append 30 = .ok (.putfield 19, 3) := by decide +kernel
theorem dX3_append_33 : decode cX3_append 33 = .ok (.aload_n 0, 1) := by decide +kernel
theorem dX3_append_34 : decode cX3_append 34 = .ok (.getfield 19, 3) := by decide +kernel
theorem dX3_append_37 : decode cX3_append 37 = .ok (.ireturn, 1) := by decide +kernel
theorem dX3_compile_0 : decode cX3_compile 0 = .ok (.aload_n 0, 1) := by decide +kernel
theorem dX3_compile_1 : decode cX3_compile 1 = .ok (.iconst 0, 1) := by decide +kernel
theorem dX3_compile_2 : decode cX3_compile 2 = .ok (.putfield 23, 3) := by decide +kernel
theorem dX3_compile_5 : decode cX3_compile 5 = .ok (.aload_n 0, 1) := by decide +kernel
theorem dX3_compile_6 : decode cX3_compile 6 = .ok (.iconst 0, 1) := by decide +kernel
theorem dX3_compile_7 : decode cX3_compile 7 = .ok (.putfield 26, 3) := by decide +kernel
theorem dX3_compile_10 : decode cX3_compile 10 = .ok (.aload_n 0, 1) := by decide +kernel
theorem dX3_compile_11 : decode cX3_compile 11 = .ok (.bipush 12, 2) := by decide +kernel
theorem dX3_compile_13 : decode cX3_compile 13 = .ok (.putfield 31, 3) := by decide +kernel
theorem dX3_compile_16 : decode cX3_compile 16 = .ok (.aload_n 0, 1) := by decide +kernel
theorem dX3_compile_17 : decode cX3_compile 17 = .ok (.iconst 5, 1) := by decide +kernel
theorem dX3_compile_18 : decode cX3_compile 18 = .ok (.putfield 34, 3) := by decide +kernel
theorem dX3_compile_21 : decode cX3_compile 21 = .ok (.aload_n 0, 1) := by decide +kernel
theorem dX3_compile_22 : decode cX3_compile 22 = .ok (.invokevirtual 37, 3) := by decide +kernel
theorem dX3_compile_25 : decode cX3_compile 25 = .ok (.istore_n 1, 1) := by decide +kernel
theorem dX3_compile_26 : decode cX3_compile 26 = .ok (.iconst 1, 1) := by decide +kernel
theorem dX3_compile_27 : decode cX3_compile 27 = .ok (.istore_n 2, 1) := by decide +kernel
theorem dX3_compile_28 : decode cX3_compile 28 = .ok (.iload_n 2, 1) := by decide +kernel
theorem dX3_compile_29 : decode cX3_compile 29 = .ok (.bipush 10, 2) := by decide +kernel
theorem dX3_compile_31 : decode cX3_compile 31 = .ok (.if_icmp .ge 27, 3) := by decide +kernel
theorem dX3_compile_34 : decode cX3_compile 34 = .ok (.iload_n 1, 1) := by decide +kernel
theorem dX3_compile_35 : decode cX3_compile 35 = .ok (.ifCond .eq 23, 3) := by decide +kernel
theorem dX3_compile_38 : decode cX3_compile 38 = .ok (.aload_n 0, 1) := by decide +kernel
theorem dX3_compile_39 : decode cX3_compile 39 = .ok (.bipush 59, 2) := by decide +kernel
theorem dX3_compile_41 : decode cX3_compile 41 = .ok (.invokevirtual 41, 3) := by decide +kernel
theorem dX3_compile_44 : decode cX3_compile 44 = .ok (.ifCond .eq 14, 3) := by decide +kernel
theorem dX3_compile_47 : decode cX3_compile 47 = .ok (.aload_n 0, 1) := by decide +kernel
theorem dX3_compile_48 : decode cX3_compile 48 = .ok (.invokevirtual 37, 3) := by decide +kernel
theorem dX3_compile_51 : decode cX3_compile 51 = .ok (.istore_n 1, 1) := by decide +kernel
theorem dX3_compile_52 : decode cX3_compile 52 = .ok (.iinc 2 1, 3) := by decide +kernel
theorem dX3_compile_55 : decode cX3_compile 55 = .ok (.goto (-27), 3) := by decide +kernel
theorem dX3_compile_58 : decode cX3_compile 58 = .ok (.iload_n 1, 1) := by decide +kernel
theorem dX3_compile_59 : decode cX3_compile 59 = .ok (.ifCond .eq 18, 3) := by decide +kernel
theorem dX3_compile_62 : decode cX3_compile 62 = .ok (.aload_n 0, 1) := by decide +kernel
theorem dX3_compile_63 : decode cX3_compile 63 = .ok (.getfield 23, 3) := by decide +kernel
theorem dX3_compile_66 : decode cX3_compile 66 = .ok (.aload_n 0, 1) := by decide +kernel
theorem dX3_compile_67 : decode cX3_compile 67 = .ok (.getfield 19, 3) := by decide +kernel
theorem dX3_compile_70 : decode cX3_compile 70 = .ok (.if_icmp .ne 7, 3) := by decide +kernel
theorem dX3_compile_73 : decode cX3_compile 73 = .ok (.iconst 1, 1) := by decide +kernel
theorem dX3_compile_74 : decode cX3_compile 74 = .ok (.goto 4, 3) := by decide +kernel
theorem dX3_compile_77 : decode cX3_compile 77 = .ok (.iconst 0, 1) := by decide +kernel
theorem dX3_compile_78 : decode cX3_compile 78 = .ok (.istore_n 1, 1) := by decide +kernel
theorem dX3_compile_79 : decode cX3_compile 79 = .ok (.aload_n 0, 1) := by decide +kernel
theorem dX3_compile_80 : decode cX3_compile 80 = .ok (.iconst 0, 1) := by decide +kernel
theorem dX3_compile_81 : decode cX3_compile 81 = .ok (.putfield 19, 3) := by decide +kernel
theorem dX3_compile_84 : decode cX3_compile 84 = .ok (.iload_n 1, 1) := by decide +kernel
theorem dX3_compile_85 : decode cX3_compile 85 = .ok (.ifCond .eq 32, 3) := by decide +kernel
theorem dX3_compile_88 : decode cX3_compile 88 = .ok (.new 45, 3) := by decide +kernel
theorem dX3_compile_91 : decode cX3_compile 91 = .ok (.dup, 1) := by decide +kernel
theorem dX3_compile_92 : decode cX3_compile 92 = .ok (.aload_n 0, 1) := by decide +kernel
theorem dX3_compile_93 : decode cX3_compile 93 = .ok (.getfield 15, 3) := by decide +kernel
theorem dX3_compile_96 : decode cX3_compile 96 = .ok (.aload_n 0, 1) := by decide +kernel
theorem dX3_compile_97 : decode cX3_compile 97 = .ok (.getfield 26, 3) := by decide +kernel
theorem dX3_compile_100 : decode cX3_compile 100 = .ok (.invokestatic 47, 3) := by decide +kernel
theorem dX3_compile_103 : decode cX3_compile 103 = .ok (.aload_n 0, 1) := by decide +kernel
theorem dX3_compile_104 : decode cX3_compile 104 = .ok (.getfield 31, 3) := by decide +kernel
theorem dX3_compile_107 : decode cX3_compile 107 = .ok (.aload_n 0, 1) := by decide +kernel
theorem dX3_compile_108 : decode cX3_compile 108 = .ok (.getfield 34, 3) := by decide +kernel
theorem dX3_compile_111 : decode cX3_compile 111 = .ok (.invokespecial 53, 3) := by decide +kernel
theorem dX3_compile_114 : decode cX3_compile 114 = .ok (.goto 4, 3) := by decide +kernel
theorem dX3_compile_117 : decode cX3_compile 117 = .ok (.aconst_null, 1) := by decide +kernel
theorem dX3_compile_118 : decode cX3_compile 118 = .ok (.areturn, 1) := by decide +kernel
theorem dX3_fault_0 : decode cX3_fault 0 = .ok (.aload_n 0, 1) := by decide +kernel
theorem dX3_fault_1 : decode cX3_fault 1 = .ok (.getfield 23, 3) := by decide +kernel
theorem dX3_fault_4 : decode cX3_fault 4 = .ok (.ireturn, 1) := by decide +kernel
theorem dX3_clause_0 : decode cX3_clause 0 = .ok (.aload_n 0, 1) := by decide +kernel
theorem dX3_clause_1 : decode cX3_clause 1 = .ok (.invokevirtual 56, 3) := by decide +kernel
theorem dX3_clause_4 : decode cX3_clause 4 = .ok (.istore_n 1, 1) := by decide +kernel
theorem dX3_clause_5 : decode cX3_clause 5 = .ok (.aload_n 0, 1) := by decide +kernel
theorem dX3_clause_6 : decode cX3_clause 6 = .ok (.iload_n 1, 1) := by decide +kernel
theorem dX3_clause_7 : decode cX3_clause 7 = .ok (.invokevirtual 60, 3) := by decide +kernel
theorem dX3_clause_10 : decode cX3_clause 10 = .ok (.ifCond .eq 10, 3) := by decide +kernel
theorem dX3_clause_13 : decode cX3_clause 13 = .ok (.aload_n 0, 1) := by decide +kernel
theorem dX3_clause_14 : decode cX3_clause 14 = .ok (.invokevirtual 63, 3) := by decide +kernel
theorem dX3_clause_17 : decode cX3_clause 17 = .ok (.ifCond .ne 5, 3) := by decide +kernel
theorem dX3_clause_20 : decode cX3_clause 20 = .ok (.iconst 0, 1) := by decide +kernel
theorem dX3_clause_21 : decode cX3_clause 21 = .ok (.ireturn, 1) := by decide +kernel
theorem dX3_clause_22 : decode cX3_clause 22 = .ok (.aload_n 0, 1) := by decide +kernel
theorem dX3_clause_23 : decode cX3_clause 23 = .ok (.getfield 66, 3) := by decide +kernel
theorem dX3_clause_26 : decode cX3_clause 26 = .ok (.istore_n 2, 1) := by decide +kernel
theorem dX3_clause_27 : decode cX3_clause 27 = .ok (.iload_n 1, 1) := by decide +kernel
theorem dX3_clause_28 : decode cX3_clause 28 = .ok (.bipush 102, 2) := by decide +kernel
theorem dX3_clause_30 : decode cX3_clause 30 = .ok (.if_icmp .ne 10, 3) := by decide +kernel
theorem dX3_clause_33 : decode cX3_clause 33 = .ok (.aload_n 0, 1) := by decide +kernel
theorem dX3_clause_34 : decode cX3_clause 34 = .ok (.iload_n 2, 1) := by decide +kernel
theorem dX3_clause_35 : decode cX3_clause 35 = .ok (.putfield 31, 3) := by decide +kernel
theorem dX3_clause_38 : decode cX3_clause 38 = .ok (.iconst 1, 1) := by decide +kernel
theorem dX3_clause_39 : decode cX3_clause 39 = .ok (.ireturn, 1) := by decide +kernel
theorem dX3_clause_40 : decode cX3_clause 40 = .ok (.iload_n 1, 1) := by decide +kernel
theorem dX3_clause_41 : decode cX3_clause 41 = .ok (.bipush 99, 2) := by decide +kernel
theorem dX3_clause_43 : decode cX3_clause 43 = .ok (.if_icmp .ne 10, 3) := by decide +kernel
theorem dX3_clause_46 : decode cX3_clause 46 = .ok (.aload_n 0, 1) := by decide +kernel
theorem dX3_clause_47 : decode cX3_clause 47 = .ok (.iload_n 2, 1) := by decide +kernel
theorem dX3_clause_48 : decode cX3_clause 48 = .ok (.putfield 34, 3) := by decide +kernel
theorem dX3_clause_51 : decode cX3_clause 51 = .ok (.iconst 1, 1) := by decide +kernel
theorem dX3_clause_52 : decode cX3_clause 52 = .ok (.ireturn, 1) := by decide +kernel
theorem dX3_clause_53 : decode cX3_clause 53 = .ok (.aload_n 0, 1) := by decide +kernel
theorem dX3_clause_54 : decode cX3_clause 54 = .ok (.bipush 32, 2) := by decide +kernel
theorem dX3_clause_56 : decode cX3_clause 56 = .ok (.invokevirtual 41, 3) := by decide +kernel
theorem dX3_clause_59 : decode cX3_clause 59 = .ok (.ifCond .eq 11, 3) := by decide +kernel
theorem dX3_clause_62 : decode cX3_clause 62 = .ok (.aload_n 0, 1) := by decide +kernel
theorem dX3_clause_63 : decode cX3_clause 63 = .ok (.iconst 0, 1) := by decide +kernel
theorem dX3_clause_64 : decode cX3_clause 64 = .ok (.invokevirtual 68, 3) := by decide +kernel
theorem dX3_clause_67 : decode cX3_clause 67 = .ok (.ifCond .ne 5, 3) := by decide +kernel
theorem dX3_clause_70 : decode cX3_clause 70 = .ok (.iconst 0, 1) := by decide +kernel
theorem dX3_clause_71 : decode cX3_clause 71 = .ok (.ireturn, 1) := by decide +kernel
theorem dX3_clause_72 : decode cX3_clause 72 = .ok (.aload_n 0, 1) := by decide +kernel
theorem dX3_clause_73 : decode cX3_clause 73 = .ok (.iload_n 1, 1) := by decide +kernel
theorem dX3_clause_74 : decode cX3_clause 74 = .ok (.bipush 114, 2) := by decide +kernel
theorem dX3_clause_76 : decode cX3_clause 76 = .ok (.if_icmp .ne 8, 3) := by decide +kernel
theorem dX3_clause_79 : decode cX3_clause 79 = .ok (.bipush 6, 2) := by decide +kernel
theorem dX3_clause_81 : decode cX3_clause 81 = .ok (.goto 5, 3) := by decide +kernel
theorem dX3_clause_84 : decode cX3_clause 84 = .ok (.bipush 7, 2) := by decide +kernel
theorem dX3_clause_86 : decode cX3_clause 86 = .ok (.iconst 0, 1) := by decide +kernel
theorem dX3_clause_87 : decode cX3_clause 87 = .ok (.iload_n 2, 1) := by decide +kernel
theorem dX3_clause_88 : decode cX3_clause 88 = .ok (.invokevirtual 71, 3) := by decide +kernel
theorem dX3_clause_91 : decode cX3_clause 91 = .ok (.iconst 1, 1) := by decide +kernel
theorem dX3_clause_92 : decode cX3_clause 92 = .ok (.ireturn, 1) := by decide +kernel
theorem dX3_word_0 : decode cX3_word 0 = .ok (.iload_n 1, 1) := by decide +kernel
theorem dX3_word_1 : decode cX3_word 1 = .ok (.bipush 114, 2) := by decide +kernel
theorem dX3_word_3 : decode cX3_word 3 = .ok (.if_icmp .ne 8, 3) := by decide +kernel
theorem dX3_word_6 : decode cX3_word 6 = .ok (.ldc 75, 2) := by decide +kernel
theorem dX3_word_8 : decode cX3_word 8 = .ok (.goto 27, 3) := by decide +kernel
theorem dX3_word_11 : decode cX3_word 11 = .ok (.iload_n 1, 1) := by decide +kernel
theorem dX3_word_12 : decode cX3_word 12 = .ok (.bipush 100, 2) := by decide +kernel
theorem dX3_word_14 : decode cX3_word 14 = .ok (.if_icmp .ne 8, 3) := by decide +kernel
theorem dX3_word_17 : decode cX3_word 17 = .ok (.ldc 77, 2) := by decide +kernel
theorem dX3_word_19 : decode cX3_word 19 = .ok (.goto 16, 3) := by decide +kernel
theorem dX3_word_22 : decode cX3_word 22 = .ok (.iload_n 1, 1) := by decide +kernel
theorem dX3_word_23 : decode cX3_word 23 = .ok (.bipush 102, 2) := by decide +kernel
theorem dX3_word_25 : decode cX3_word 25 = .ok (.if_icmp .ne 8, 3) := by decide +kernel
theorem dX3_word_28 : decode cX3_word 28 = .ok (.ldc 79, 2) := by decide +kernel
theorem dX3_word_30 : decode cX3_word 30 = .ok (.goto 5, 3) := by decide +kernel
theorem dX3_word_33 : decode cX3_word 33 = .ok (.ldc 81, 2) := by decide +kernel
theorem dX3_word_35 : decode cX3_word 35 = .ok (.astore_n 2, 1) := by decide +kernel
theorem dX3_word_36 : decode cX3_word 36 = .ok (.iconst 0, 1) := by decide +kernel
theorem dX3_word_37 : decode cX3_word 37 = .ok (.istore_n 3, 1) := by decide +kernel
theorem dX3_word_38 : decode cX3_word 38 = .ok (.iload_n 3, 1) := by decide +kernel
theorem dX3_word_39 : decode cX3_word 39 = .ok (.aload_n 2, 1) := by decide +kernel
theorem dX3_word_40 : decode cX3_word 40 = .ok (.invokevirtual 83, 3) := by decide +kernel
theorem dX3_word_43 : decode cX3_word 43 = .ok (.if_icmp .ge 23, 3) := by decide +kernel
theorem dX3_word_46 : decode cX3_word 46 = .ok (.aload_n 0, 1) := by decide +kernel
theorem dX3_word_47 : decode cX3_word 47 = .ok (.aload_n 2, 1) := by decide +kernel
theorem dX3_word_48 : decode cX3_word 48 = .ok (.iload_n 3, 1) := by decide +kernel
theorem dX3_word_49 : decode cX3_word 49 = .ok (.invokevirtual 87, 3) := by decide +kernel
theorem dX3_word_52 : decode cX3_word 52 = .ok (.invokevirtual 41, 3) := by decide +kernel
theorem dX3_word_55 : decode cX3_word 55 = .ok (.ifCond .ne 5, 3) := by decide +kernel
theorem dX3_word_58 : decode cX3_word 58 = .ok (.iconst 0, 1) := by decide +kernel
theorem dX3_word_59 : decode cX3_word 59 = .ok (.ireturn, 1) := by decide +kernel
theorem dX3_word_60 : decode cX3_word 60 = .ok (.iinc 3 1, 3) := by decide +kernel
theorem dX3_word_63 : decode cX3_word 63 = .ok (.goto (-25), 3) := by decide +kernel
theorem dX3_word_66 : decode cX3_word 66 = .ok (.iconst 1, 1) := by decide +kernel
theorem dX3_word_67 : decode cX3_word 67 = .ok (.ireturn, 1) := by decide +kernel
theorem dX3_number_0 : decode cX3_number 0 = .ok (.aload_n 0, 1) := by decide +kernel
theorem dX3_number_1 : decode cX3_number 1 = .ok (.invokevirtual 56, 3) := by decide +kernel
theorem dX3_number_4 : decode cX3_number 4 = .ok (.bipush 48, 2) := by decide +kernel
theorem dX3_number_6 : decode cX3_number 6 = .ok (.isub, 1) := by decide +kernel
theorem dX3_number_7 : decode cX3_number 7 = .ok (.istore_n 1, 1) := by decide +kernel
theorem dX3_number_8 : decode cX3_number 8 = .ok (.iload_n 1, 1) := by decide +kernel
theorem dX3_number_9 : decode cX3_number 9 = .ok (.ifCond .lt 9, 3) := by decide +kernel
theorem dX3_number_12 : decode cX3_number 12 = .ok (.iload_n 1, 1) := by decide +kernel
theorem dX3_number_13 : decode cX3_number 13 = .ok (.bipush 9, 2) := by decide +kernel
theorem dX3_number_15 : decode cX3_number 15 = .ok (.if_icmp .le 5, 3) := by decide +kernel
theorem dX3_number_18 : decode cX3_number 18 = .ok (.iconst 0, 1) := by decide +kernel
theorem dX3_number_19 : decode cX3_number 19 = .ok (.ireturn, 1) := by decide +kernel
theorem dX3_number_20 : decode cX3_number 20 = .ok (.aload_n 0, 1) := by decide +kernel
theorem dX3_number_21 : decode cX3_number 21 = .ok (.dup, 1) := by decide +kernel
theorem dX3_number_22 : decode cX3_number 22 = .ok (.getfield 23, 3) := by decide +kernel
theorem dX3_number_25 : decode cX3_number 25 = .ok (.iconst 1, 1) := by decide +kernel
theorem dX3_number_26 : decode cX3_number 26 = .ok (.iadd, 1) := by decide +kernel
theorem dX3_number_27 : decode cX3_number 27 = .ok (.putfield 23, 3) := by decide +kernel
theorem dX3_number_30 : decode cX3_number 30 = .ok (.aload_n 0, 1) := by decide +kernel
theorem dX3_number_31 : decode cX3_number 31 = .ok (.iload_n 1, 1) := by decide +kernel
theorem dX3_number_32 : decode cX3_number 32 = .ok (.putfield 66, 3) := by decide +kernel
theorem dX3_number_35 : decode cX3_number 35 = .ok (.aload_n 0, 1) := by decide +kernel
theorem dX3_number_36 : decode cX3_number 36 = .ok (.invokevirtual 56, 3) := by decide +kernel
theorem dX3_number_39 : decode cX3_number 39 = .ok (.bipush 48, 2) := by decide +kernel
theorem dX3_number_41 : decode cX3_number 41 = .ok (.isub, 1) := by decide +kernel
theorem dX3_number_42 : decode cX3_number 42 = .ok (.istore_n 1, 1) := by decide +kernel
theorem dX3_number_43 : decode cX3_number 43 = .ok (.iload_n 1, 1) := by decide +kernel
theorem dX3_number_44 : decode cX3_number 44 = .ok (.ifCond .lt 32, 3) := by decide +kernel
theorem dX3_number_47 : decode cX3_number 47 = .ok (.iload_n 1, 1) := by decide +kernel
theorem dX3_number_48 : decode cX3_number 48 = .ok (.bipush 9, 2) := by decide +kernel
theorem dX3_number_50 : decode cX3_number 50 = .ok (.if_icmp .gt 26, 3) := by decide +kernel
theorem dX3_number_53 : decode cX3_number 53 = .ok (.aload_n 0, 1) := by decide +kernel
theorem dX3_number_54 : decode cX3_number 54 = .ok (.dup, 1) := by decide +kernel
theorem dX3_number_55 : decode cX3_number 55 = .ok (.getfield 23, 3) := by decide +kernel
theorem dX3_number_58 : decode cX3_number 58 = .ok (.iconst 1, 1) := by decide +kernel
theorem dX3_number_59 : decode cX3_number 59 = .ok (.iadd, 1) := by decide +kernel
theorem dX3_number_60 : decode cX3_number 60 = .ok (.putfield 23, 3) := by decide +kernel
theorem dX3_number_63 : decode cX3_number 63 = .ok (.aload_n 0, 1) := by decide +kernel
theorem dX3_number_64 : decode cX3_number 64 = .ok (.bipush 10, 2) := by decide +kernel
theorem dX3_number_66 : decode cX3_number 66 = .ok (.aload_n 0, 1) := by decide +kernel
theorem dX3_number_67 : decode cX3_number 67 = .ok (.getfield 66, 3) := by decide +kernel
theorem dX3_number_70 : decode cX3_number 70 = .ok (.imul, 1) := by decide +kernel
theorem dX3_number_71 : decode cX3_number 71 = .ok (.iload_n 1, 1) := by decide +kernel
theorem dX3_number_72 : decode cX3_number 72 = .ok (.iadd, 1) := by decide +kernel
theorem dX3_number_73 : decode cX3_number 73 = .ok (.putfield 66, 3) := by decide +kernel
theorem dX3_number_76 : decode cX3_number 76 = .ok (.iconst 1, 1) := by decide +kernel
theorem dX3_number_77 : decode cX3_number 77 = .ok (.ireturn, 1) := by decide +kernel
theorem dX3_expression_0 : decode cX3_expression 0 = .ok (.iconst 0, 1) := by decide +kernel
theorem dX3_expression_1 : decode cX3_expression 1 = .ok (.istore_n 2, 1) := by decide +kernel
theorem dX3_expression_2 : decode cX3_expression 2 = .ok (.iload_n 2, 1) := by decide +kernel
theorem dX3_expression_3 : decode cX3_expression 3 = .ok (.bipush 100, 2) := by decide +kernel
theorem dX3_expression_5 : decode cX3_expression 5 = .ok (.if_icmp .ge 81, 3) := by decide +kernel
theorem dX3_expression_8 : decode cX3_expression 8 = .ok (.aload_n 0, 1) := by decide +kernel
theorem dX3_expression_9 : decode cX3_expression 9 = .ok (.iload_n 1, 1) := by decide +kernel
theorem dX3_expression_10 : decode cX3_expression 10 = .ok (.invokevirtual 91, 3) := by decide +kernel
theorem dX3_expression_13 : decode cX3_expression 13 = .ok (.ifCond .ne 5, 3) := by decide +kernel
theorem dX3_expression_16 : decode cX3_expression 16 = .ok (.iconst 0, 1) := by decide +kernel
theorem dX3_expression_17 : decode cX3_expression 17 = .ok (.ireturn, 1) := by decide +kernel
theorem dX3_expression_18 : decode cX3_expression 18 = .ok (.iconst 1, 1) := by decide +kernel
theorem dX3_expression_19 : decode cX3_expression 19 = .ok (.istore_n 3, 1) := by decide +kernel
theorem dX3_expression_20 : decode cX3_expression 20 = .ok (.iload_n 3, 1) := by decide +kernel
theorem dX3_expression_21 : decode cX3_expression 21 = .ok (.bipush 100, 2) := by decide +kernel
theorem dX3_expression_23 : decode cX3_expression 23 = .ok (.if_icmp .ge 35, 3) := by decide +kernel
theorem dX3_expression_26 : decode cX3_expression 26 = .ok (.aload_n 0, 1) := by decide +kernel
theorem dX3_expression_27 : decode cX3_expression 27 = .ok (.bipush 38, 2) := by decide +kernel
theorem dX3_expression_29 : decode cX3_expression 29 = .ok (.invokevirtual 41, 3) := by decide +kernel
theorem dX3_expression_32 : decode cX3_expression 32 = .ok (.ifCond .eq 26, 3) := by decide +kernel
theorem dX3_expression_35 : decode cX3_expression 35 = .ok (.aload_n 0, 1) := by decide +kernel
theorem dX3_expression_36 : decode cX3_expression 36 = .ok (.iload_n 1, 1) := by decide +kernel
theorem dX3_expression_37 : decode cX3_expression 37 = .ok (.invokevirtual 91, 3) := by decide +kernel
theorem dX3_expression_40 : decode cX3_expression 40 = .ok (.ifCond .ne 5, 3) := by decide +kernel
theorem dX3_expression_43 : decode cX3_expression 43 = .ok (.iconst 0, 1) := by decide +kernel
theorem dX3_expression_44 : decode cX3_expression 44 = .ok (.ireturn, 1) := by decide +kernel
theorem dX3_expression_45 : decode cX3_expression 45 = .ok (.aload_n 0, 1) := by decide +kernel
theorem dX3_expression_46 : decode cX3_expression 46 = .ok (.iconst 3, 1) := by decide +kernel
theorem dX3_expression_47 : decode cX3_expression 47 = .ok (.iconst 0, 1) := by decide +kernel
theorem dX3_expression_48 : decode cX3_expression 48 = .ok (.iconst 0, 1) := by decide +kernel
theorem dX3_expression_49 : decode cX3_expression 49 = .ok (.invokevirtual 71, 3) := by decide +kernel
theorem dX3_expression_52 : decode cX3_expression 52 = .ok (.iinc 3 1, 3) := by decide +kernel
theorem dX3_expression_55 : decode cX3_expression 55 = .ok (.goto (-35), 3) := by decide +kernel
theorem dX3_expression_58 : decode cX3_expression 58 = .ok (.iload_n 2, 1) := by decide +kernel
theorem dX3_expression_59 : decode cX3_expression 59 = .ok (.ifCond .le 10, 3) := by decide +kernel
theorem dX3_expression_62 : decode cX3_expression 62 = .ok (.aload_n 0, 1) := by decide +kernel
theorem dX3_expression_63 : decode cX3_expression 63 = .ok (.iconst 4, 1) := by decide +kernel
theorem dX3_expression_64 : decode cX3_expression 64 = .ok (.iconst 0, 1) := by decide +kernel
theorem dX3_expression_65 : decode cX3_expression 65 = .ok (.iconst 0, 1) := by decide +kernel
theorem dX3_expression_66 : decode cX3_expression 66 = .ok (.invokevirtual 71, 3) := by decide +kernel
theorem dX3_expression_69 : decode cX3_expression 69 = .ok (.aload_n 0, 1) := by decide +kernel
theorem dX3_expression_70 : decode cX3_expression 70 = .ok (.bipush 124, 2) := by decide +kernel
theorem dX3_expression_72 : decode cX3_expression 72 = .ok (.invokevirtual 41, 3) := by decide +kernel
theorem dX3_expression_75 : decode cX3_expression 75 = .ok (.ifCond .ne 5, 3) := by decide +kernel
theorem dX3_expression_78 : decode cX3_expression 78 = .ok (.iconst 1, 1) := by decide +kernel
theorem dX3_expression_79 : decode cX3_expression 79 = .ok (.ireturn, 1) := by decide +kernel
theorem dX3_expression_80 : decode cX3_expression 80 = .ok (.iinc 2 1, 3) := by decide +kernel
theorem dX3_expression_83 : decode cX3_expression 83 = .ok (.goto (-81), 3) := by decide +kernel
theorem dX3_expression_86 : decode cX3_expression 86 = .ok (.iconst 0, 1) := by decide +kernel
theorem dX3_expression_87 : decode cX3_expression 87 = .ok (.ireturn, 1) := by decide +kernel
theorem dX3_factor_0 : decode cX3_factor 0 = .ok (.aload_n 0, 1) := by decide +kernel
theorem dX3_factor_1 : decode cX3_factor 1 = .ok (.invokevirtual 56, 3) := by decide +kernel
theorem dX3_factor_4 : decode cX3_factor 4 = .ok (.istore_n 2, 1) := by decide +kernel
theorem dX3_factor_5 : decode cX3_factor 5 = .ok (.iload_n 2, 1) := by decide +kernel
theorem dX3_factor_6 : decode cX3_factor 6 = .ok (.bipush 33, 2) := by decide +kernel
theorem dX3_factor_8 : decode cX3_factor 8 = .ok (.if_icmp .eq 14, 3) := by decide +kernel
theorem dX3_factor_11 : decode cX3_factor 11 = .ok (.iload_n 2, 1) := by decide +kernel
theorem dX3_factor_12 : decode cX3_factor 12 = .ok (.bipush 40, 2) := by decide +kernel
theorem dX3_factor_14 : decode cX3_factor 14 = .ok (.if_icmp .eq 8, 3) := by decide +kernel
theorem dX3_factor_17 : decode cX3_factor 17 = .ok (.aload_n 0, 1) := by decide +kernel
theorem dX3_factor_18 : decode cX3_factor 18 = .ok (.invokevirtual 94, 3) := by decide +kernel
theorem dX3_factor_21 : decode cX3_factor 21 = .ok (.ireturn, 1) := by decide +kernel
theorem dX3_factor_22 : decode cX3_factor 22 = .ok (.iload_n 1, 1) := by decide +kernel
theorem dX3_factor_23 : decode cX3_factor 23 = .ok (.iconst 4, 1) := by decide +kernel
theorem dX3_factor_24 : decode cX3_factor 24 = .ok (.if_icmp .lt 5, 3) := by decide +kernel
theorem dX3_factor_27 : decode cX3_factor 27 = .ok (.iconst 0, 1) := by decide +kernel
theorem dX3_factor_28 : decode cX3_factor 28 = .ok (.ireturn, 1) := by decide +kernel
theorem dX3_factor_29 : decode cX3_factor 29 = .ok (.aload_n 0, 1) := by decide +kernel
theorem dX3_factor_30 : decode cX3_factor 30 = .ok (.dup, 1) := by decide +kernel
theorem dX3_factor_31 : decode cX3_factor 31 = .ok (.getfield 23, 3) := by decide +kernel
theorem dX3_factor_34 : decode cX3_factor 34 = .ok (.iconst 1, 1) := by decide +kernel
theorem dX3_factor_35 : decode cX3_factor 35 = .ok (.iadd, 1) := by decide +kernel
theorem dX3_factor_36 : decode cX3_factor 36 = .ok (.putfield 23, 3) := by decide +kernel
theorem dX3_factor_39 : decode cX3_factor 39 = .ok (.iload_n 2, 1) := by decide +kernel
theorem dX3_factor_40 : decode cX3_factor 40 = .ok (.bipush 40, 2) := by decide +kernel
theorem dX3_factor_42 : decode cX3_factor 42 = .ok (.if_icmp .ne 28, 3) := by decide +kernel
theorem dX3_factor_45 : decode cX3_factor 45 = .ok (.aload_n 0, 1) := by decide +kernel
theorem dX3_factor_46 : decode cX3_factor 46 = .ok (.iload_n 1, 1) := by decide +kernel
theorem dX3_factor_47 : decode cX3_factor 47 = .ok (.iconst 1, 1) := by decide +kernel
theorem dX3_factor_48 : decode cX3_factor 48 = .ok (.iadd, 1) := by decide +kernel
theorem dX3_factor_49 : decode cX3_factor 49 = .ok (.invokevirtual 68, 3) := by decide +kernel
theorem dX3_factor_52 : decode cX3_factor 52 = .ok (.ifCond .eq 16, 3) := by decide +kernel
theorem dX3_factor_55 : decode cX3_factor 55 = .ok (.aload_n 0, 1) := by decide +kernel
theorem dX3_factor_56 : decode cX3_factor 56 = .ok (.bipush 41, 2) := by decide +kernel
theorem dX3_factor_58 : decode cX3_factor 58 = .ok (.invokevirtual 41, 3) := by decide +kernel
theorem dX3_factor_61 : decode cX3_factor 61 = .ok (.ifCond .eq 7, 3) := by decide +kernel
theorem dX3_factor_64 : decode cX3_factor 64 = .ok (.iconst 1, 1) := by decide +kernel
theorem dX3_factor_65 : decode cX3_factor 65 = .ok (.goto 4, 3) := by decide +kernel
theorem dX3_factor_68 : decode cX3_factor 68 = .ok (.iconst 0, 1) := by decide +kernel
theorem dX3_factor_69 : decode cX3_factor 69 = .ok (.ireturn, 1) := by decide +kernel
theorem dX3_factor_70 : decode cX3_factor 70 = .ok (.aload_n 0, 1) := by decide +kernel
theorem dX3_factor_71 : decode cX3_factor 71 = .ok (.iload_n 1, 1) := by decide +kernel
theorem dX3_factor_72 : decode cX3_factor 72 = .ok (.iconst 1, 1) := by decide +kernel
theorem dX3_factor_73 : decode cX3_factor 73 = .ok (.iadd, 1) := by decide +kernel
theorem dX3_factor_74 : decode cX3_factor 74 = .ok (.invokevirtual 91, 3) := by decide +kernel
theorem dX3_factor_77 : decode cX3_factor 77 = .ok (.ifCond .ne 5, 3) := by decide +kernel
theorem dX3_factor_80 : decode cX3_factor 80 = .ok (.iconst 0, 1) := by decide +kernel
theorem dX3_factor_81 : decode cX3_factor 81 = .ok (.ireturn, 1) := by decide +kernel
theorem dX3_factor_82 : decode cX3_factor 82 = .ok (.aload_n 0, 1) := by decide +kernel
theorem dX3_factor_83 : decode cX3_factor 83 = .ok (.iconst 5, 1) := by decide +kernel
theorem dX3_factor_84 : decode cX3_factor 84 = .ok (.iconst 0, 1) := by decide +kernel
theorem dX3_factor_85 : decode cX3_factor 85 = .ok (.iconst 0, 1) := by decide +kernel
theorem dX3_factor_86 : decode cX3_factor 86 = .ok (.invokevirtual 71, 3) := by decide +kernel
theorem dX3_factor_89 : decode cX3_factor 89 = .ok (.iconst 1, 1) := by decide +kernel
theorem dX3_factor_90 : decode cX3_factor 90 = .ok (.ireturn, 1) := by decide +kernel
theorem dX3_test_0 : decode cX3_test 0 = .ok (.aload_n 0, 1) := by decide +kernel
theorem dX3_test_1 : decode cX3_test 1 = .ok (.ldc 97, 2) := by decide +kernel
theorem dX3_test_3 : decode cX3_test 3 = .ok (.invokevirtual 99, 3) := by decide +kernel
theorem dX3_test_6 : decode cX3_test 6 = .ok (.istore_n 1, 1) := by decide +kernel
theorem dX3_test_7 : decode cX3_test 7 = .ok (.iload_n 1, 1) := by decide +kernel
theorem dX3_test_8 : decode cX3_test 8 = .ok (.ifCond .ge 5, 3) := by decide +kernel
theorem dX3_test_11 : decode cX3_test 11 = .ok (.iconst 0, 1) := by decide +kernel
theorem dX3_test_12 : decode cX3_test 12 = .ok (.ireturn, 1) := by decide +kernel
theorem dX3_test_13 : decode cX3_test 13 = .ok (.aload_n 0, 1) := by decide +kernel
theorem dX3_test_14 : decode cX3_test 14 = .ok (.dup, 1) := by decide +kernel
theorem dX3_test_15 : decode cX3_test 15 = .ok (.getfield 23, 3) := by decide +kernel
theorem dX3_test_18 : decode cX3_test 18 = .ok (.iconst 1, 1) := by decide +kernel
theorem dX3_test_19 : decode cX3_test 19 = .ok (.iadd, 1) := by decide +kernel
theorem dX3_test_20 : decode cX3_test 20 = .ok (.putfield 23, 3) := by decide +kernel
theorem dX3_test_23 : decode cX3_test 23 = .ok (.aload_n 0, 1) := by decide +kernel
theorem dX3_test_24 : decode cX3_test 24 = .ok (.ldc 103, 2) := by decide +kernel
theorem dX3_test_26 : decode cX3_test 26 = .ok (.invokevirtual 99, 3) := by decide +kernel
theorem dX3_test_29 : decode cX3_test 29 = .ok (.istore_n 2, 1) := by decide +kernel
theorem dX3_test_30 : decode cX3_test 30 = .ok (.iload_n 2, 1) := by decide +kernel
theorem dX3_test_31 : decode cX3_test 31 = .ok (.ifCond .ge 5, 3) := by decide +kernel
theorem dX3_test_34 : decode cX3_test 34 = .ok (.iconst 0, 1) := by decide +kernel
theorem dX3_test_35 : decode cX3_test 35 = .ok (.ireturn, 1) := by decide +kernel
theorem dX3_test_36 : decode cX3_test 36 = .ok (.aload_n 0, 1) := by decide +kernel
theorem dX3_test_37 : decode cX3_test 37 = .ok (.dup, 1) := by decide +kernel
theorem dX3_test_38 : decode cX3_test 38 = .ok (.getfield 23, 3) := by decide +kernel
theorem dX3_test_41 : decode cX3_test 41 = .ok (.iconst 1, 1) := by decide +kernel
theorem dX3_test_42 : decode cX3_test 42 = .ok (.iadd, 1) := by decide +kernel
theorem dX3_test_43 : decode cX3_test 43 = .ok (.putfield 23, 3) := by decide +kernel
theorem dX3_test_46 : decode cX3_test 46 = .ok (.aload_n 0, 1) := by decide +kernel
theorem dX3_test_47 : decode cX3_test 47 = .ok (.invokevirtual 63, 3) := by decide +kernel
theorem dX3_test_50 : decode cX3_test 50 = .ok (.ifCond .ne 5, 3) := by decide +kernel
theorem dX3_test_53 : decode cX3_test 53 = .ok (.iconst 0, 1) := by decide +kernel
theorem dX3_test_54 : decode cX3_test 54 = .ok (.ireturn, 1) := by decide +kernel
theorem dX3_test_55 : decode cX3_test 55 = .ok (.aload_n 0, 1) := by decide +kernel
theorem dX3_test_56 : decode cX3_test 56 = .ok (.iload_n 2, 1) := by decide +kernel
theorem dX3_test_57 : decode cX3_test 57 = .ok (.iload_n 1, 1) := by decide +kernel
theorem dX3_test_58 : decode cX3_test 58 = .ok (.aload_n 0, 1) := by decide +kernel
theorem dX3_test_59 : decode cX3_test 59 = .ok (.getfield 66, 3) := by decide +kernel
theorem dX3_test_62 : decode cX3_test 62 = .ok (.invokevirtual 71, 3) := by decide +kernel
theorem dX3_test_65 : decode cX3_test 65 = .ok (.iconst 1, 1) := by decide +kernel
theorem dX3_test_66 : decode cX3_test 66 = .ok (.ireturn, 1) := by decide +kernel
theorem dX3_ahead_0 : decode cX3_ahead 0 = .ok (.aload_n 0, 1) := by decide +kernel
theorem dX3_ahead_1 : decode cX3_ahead 1 = .ok (.getfield 23, 3) := by decide +kernel
theorem dX3_ahead_4 : decode cX3_ahead 4 = .ok (.aload_n 0, 1) := by decide +kernel
theorem dX3_ahead_5 : decode cX3_ahead 5 = .ok (.getfield 19, 3) := by decide +kernel
theorem dX3_ahead_8 : decode cX3_ahead 8 = .ok (.if_icmp .ge 15, 3) := by decide +kernel
theorem dX3_ahead_11 : decode cX3_ahead 11 = .ok (.aload_n 0, 1) := by decide +kernel
theorem dX3_ahead_12 : decode cX3_ahead 12 = .ok (.getfield 11, 3) := by decide +kernel
theorem dX3_ahead_15 : decode cX3_ahead 15 = .ok (.aload_n 0, 1) := by decide +kernel
theorem dX3_ahead_16 : decode cX3_ahead 16 = .ok (.getfield 23, 3) := by decide +kernel
theorem dX3_ahead_19 : decode cX3_ahead 19 = .ok (.baload, 1) := by decide +kernel
theorem dX3_ahead_20 : decode cX3_ahead 20 = .ok (.goto 4, 3) := by decide +kernel
theorem dX3_ahead_23 : decode cX3_ahead 23 = .ok (.iconst (-1), 1) := by decide +kernel
theorem dX3_ahead_24 : decode cX3_ahead 24 = .ok (.ireturn, 1) := by decide +kernel
theorem dX3_among_0 : decode cX3_among 0 = .ok (.aload_n 0, 1) := by decide +kernel
theorem dX3_among_1 : decode cX3_among 1 = .ok (.getfield 23, 3) := by decide +kernel
theorem dX3_among_4 : decode cX3_among 4 = .ok (.aload_n 0, 1) := by decide +kernel
theorem dX3_among_5 : decode cX3_among 5 = .ok (.getfield 19, 3) := by decide +kernel
theorem dX3_among_8 : decode cX3_among 8 = .ok (.if_icmp .ge 20, 3) := by decide +kernel
theorem dX3_among_11 : decode cX3_among 11 = .ok (.aload_n 1, 1) := by decide +kernel
theorem dX3_among_12 : decode cX3_among 12 = .ok (.aload_n 0, 1) := by decide +kernel
theorem dX3_among_13 : decode cX3_among 13 = .ok (.getfield 11, 3) := by decide +kernel
theorem dX3_among_16 : decode cX3_among 16 = .ok (.aload_n 0, 1) := by decide +kernel
theorem dX3_among_17 : decode cX3_among 17 = .ok (.getfield 23, 3) := by decide +kernel
theorem dX3_among_20 : decode cX3_among 20 = .ok (.baload, 1) := by decide +kernel
theorem dX3_among_21 : decode cX3_among 21 = .ok (.i2c, 1) := by decide +kernel
theorem dX3_among_22 : decode cX3_among 22 = .ok (.invokevirtual 105, 3) := by decide +kernel
theorem dX3_among_25 : decode cX3_among 25 = .ok (.goto 4, 3) := by decide +kernel
theorem dX3_among_28 : decode cX3_among 28 = .ok (.iconst (-1), 1) := by decide +kernel
theorem dX3_among_29 : decode cX3_among 29 = .ok (.ireturn, 1) := by decide +kernel
theorem dX3_take_0 : decode cX3_take 0 = .ok (.aload_n 0, 1) := by decide +kernel
theorem dX3_take_1 : decode cX3_take 1 = .ok (.getfield 23, 3) := by decide +kernel
theorem dX3_take_4 : decode cX3_take 4 = .ok (.aload_n 0, 1) := by decide +kernel
theorem dX3_take_5 : decode cX3_take 5 = .ok (.getfield 19, 3) := by decide +kernel
theorem dX3_take_8 : decode cX3_take 8 = .ok (.if_icmp .ge 16, 3) := by decide +kernel
theorem dX3_take_11 : decode cX3_take 11 = .ok (.aload_n 0, 1) := by decide +kernel
theorem dX3_take_12 : decode cX3_take 12 = .ok (.getfield 11, 3) := by decide +kernel
theorem dX3_take_15 : decode cX3_take 15 = .ok (.aload_n 0, 1) := by decide +kernel
theorem dX3_take_16 : decode cX3_take 16 = .ok (.getfield 23, 3) := by decide +kernel
theorem dX3_take_19 : decode cX3_take 19 = .ok (.baload, 1) := by decide +kernel
theorem dX3_take_20 : decode cX3_take 20 = .ok (.iload_n 1, 1) := by decide +kernel
theorem dX3_take_21 : decode cX3_take 21 = .ok (.if_icmp .eq 5, 3) := by decide +kernel
theorem dX3_take_24 : decode cX3_take 24 = .ok (.iconst 0, 1) := by decide +kernel
theorem dX3_take_25 : decode cX3_take 25 = .ok (.ireturn, 1) := by decide +kernel
theorem dX3_take_26 : decode cX3_take 26 = .ok (.aload_n 0, 1) := by decide +kernel
theorem dX3_take_27 : decode cX3_take 27 = .ok (.dup, 1) := by decide +kernel
theorem dX3_take_28 : decode cX3_take 28 = .ok (.getfield 23, 3) := by decide +kernel
theorem dX3_take_31 : decode cX3_take 31 = .ok (.iconst 1, 1) := by decide +kernel
theorem dX3_take_32 : decode cX3_take 32 = .ok (.iadd, 1) := by decide +kernel
theorem dX3_take_33 : decode cX3_take 33 = .ok (.putfield 23, 3) := by decide +kernel
theorem dX3_take_36 : decode cX3_take 36 = .ok (.iconst 1, 1) := by decide +kernel
theorem dX3_take_37 : decode cX3_take 37 = .ok (.ireturn, 1) := by decide +kernel
theorem dX3_emit_0 : decode cX3_emit 0 = .ok (.aload_n 0, 1) := by decide +kernel
theorem dX3_emit_1 : decode cX3_emit 1 = .ok (.getfield 26, 3) := by decide +kernel
theorem dX3_emit_4 : decode cX3_emit 4 = .ok (.bipush 100, 2) := by decide +kernel
theorem dX3_emit_6 : decode cX3_emit 6 = .ok (.if_icmp .ge 28, 3) := by decide +kernel
theorem dX3_emit_9 : decode cX3_emit 9 = .ok (.aload_n 0, 1) := by decide +kernel
theorem dX3_emit_10 : decode cX3_emit 10 = .ok (.getfield 15, 3) := by decide +kernel
theorem dX3_emit_13 : decode cX3_emit 13 = .ok (.aload_n 0, 1) := by decide +kernel
theorem dX3_emit_14 : decode cX3_emit 14 = .ok (.getfield 26, 3) := by decide +kernel
theorem dX3_emit_17 : decode cX3_emit 17 = .ok (.iload_n 1, 1) := by decide +kernel
theorem dX3_emit_18 : decode cX3_emit 18 = .ok (.iload_n 2, 1) := by decide +kernel
theorem dX3_emit_19 : decode cX3_emit 19 = .ok (.iload_n 3, 1) := by decide +kernel
theorem dX3_emit_20 : decode cX3_emit 20 = .ok (.invokestatic 109, 3) := by decide +kernel
theorem dX3_emit_23 : decode cX3_emit 23 = .ok (.iastore, 1) := by decide +kernel
theorem dX3_emit_24 : decode cX3_emit 24 = .ok (.aload_n 0, 1) := by decide +kernel
theorem dX3_emit_25 : decode cX3_emit 25 = .ok (.dup, 1) := by decide +kernel
theorem dX3_emit_26 : decode cX3_emit 26 = .ok (.getfield 26, 3) := by decide +kernel
theorem dX3_emit_29 : decode cX3_emit 29 = .ok (.iconst 1, 1) := by decide +kernel
theorem dX3_emit_30 : decode cX3_emit 30 = .ok (.iadd, 1) := by decide +kernel
theorem dX3_emit_31 : decode cX3_emit 31 = .ok (.putfield 26, 3) := by decide +kernel
theorem dX3_emit_34 : decode cX3_emit 34 = .ok (.return_, 1) := by decide +kernel
theorem dX4_init_0 : decode cX4_init 0 = .ok (.aload_n 0, 1) := by decide +kernel
theorem dX4_init_1 : decode cX4_init 1 = .ok (.invokespecial 3, 3) := by decide +kernel
theorem dX4_init_4 : decode cX4_init 4 = .ok (.aload_n 0, 1) := by decide +kernel
theorem dX4_init_5 : decode cX4_init 5 = .ok (.new 9, 3) := by decide +kernel
theorem dX4_init_8 : decode cX4_init 8 = .ok (.dup, 1) := by decide +kernel
theorem dX4_init_9 : decode cX4_init 9 = .ok (.invokespecial 11, 3) := by decide +kernel
theorem dX4_init_12 : decode cX4_init 12 = .ok (.putfield 12, 3) := by decide +kernel
theorem dX4_init_15 : decode cX4_init 15 = .ok (.aload_n 0, 1) := by decide +kernel
theorem dX4_init_16 : decode cX4_init 16 = .ok (.new 18, 3) := by decide +kernel
theorem dX4_init_19 : decode cX4_init 19 = .ok (.dup, 1) := by decide +kernel
theorem dX4_init_20 : decode cX4_init 20 = .ok (.bipush 6, 2) := by decide +kernel
theorem dX4_init_22 : decode cX4_init 22 = .ok (.invokespecial 20, 3) := by decide +kernel
theorem dX4_init_25 : decode cX4_init 25 = .ok (.putfield 23, 3) := by decide +kernel
theorem dX4_init_28 : decode cX4_init 28 = .ok (.aload_n 0, 1) := by decide +kernel
theorem dX4_init_29 : decode cX4_init 29 = .ok (.new 18, 3) := by decide +kernel
theorem dX4_init_32 : decode cX4_init 32 = .ok (.dup, 1) := by decide +kernel
theorem dX4_init_33 : decode cX4_init 33 = .ok (.bipush 10, 2) := by decide +kernel
theorem dX4_init_35 : decode cX4_init 35 = .ok (.invokespecial 20, 3) := by decide +kernel
theorem dX4_init_38 : decode cX4_init 38 = .ok (.putfield 27, 3) := by decide +kernel
theorem dX4_init_41 : decode cX4_init 41 = .ok (.aload_n 0, 1) := by decide +kernel
theorem dX4_init_42 : decode cX4_init 42 = .ok (.new 18, 3) := by decide +kernel
theorem dX4_init_45 : decode cX4_init 45 = .ok (.dup, 1) := by decide +kernel
theorem dX4_init_46 : decode cX4_init 46 = .ok (.bipush 8, 2) := by decide +kernel
theorem dX4_init_48 : decode cX4_init 48 = .ok (.invokespecial 20, 3) := by decide +kernel
theorem dX4_init_51 : decode cX4_init 51 = .ok (.putfield 30, 3) := by decide +kernel
theorem dX4_init_54 : decode cX4_init 54 = .ok (.return_, 1) := by decide +kernel
theorem dX4_become_0 : decode cX4_become 0 = .ok (.aload_n 0, 1) := by decide +kernel
theorem dX4_become_1 : decode cX4_become 1 = .ok (.getfield 12, 3) := by decide +kernel
theorem dX4_become_4 : decode cX4_become 4 = .ok (.aload_n 1, 1) := by decide +kernel
theorem dX4_become_5 : decode cX4_become 5 = .ok (.getfield 12, 3) := by decide +kernel
theorem dX4_become_8 : decode cX4_become 8 = .ok (.invokevirtual 33, 3) := by decide +kernel
theorem dX4_become_11 : decode cX4_become 11 = .ok (.aload_n 0, 1) := by decide +kernel
theorem dX4_become_12 : decode cX4_become 12 = .ok (.getfield 23, 3) := by decide +kernel
theorem dX4_become_15 : decode cX4_become 15 = .ok (.aload_n 1, 1) := by decide +kernel
theorem dX4_become_16 : decode cX4_become 16 = .ok (.getfield 23, 3) := by decide +kernel
theorem dX4_become_19 : decode cX4_become 19 = .ok (.invokevirtual 37, 3) := by decide +kernel
theorem dX4_become_22 : decode cX4_become 22 = .ok (.aload_n 0, 1) := by decide +kernel
theorem dX4_become_23 : decode cX4_become 23 = .ok (.getfield 27, 3) := by decide +kernel
theorem dX4_become_26 : decode cX4_become 26 = .ok (.aload_n 1, 1) := by decide +kernel
theorem dX4_become_27 : decode cX4_become 27 = .ok (.getfield 27, 3) := by decide +kernel
theorem dX4_become_30 : decode cX4_become 30 = .ok (.invokevirtual 37, 3) := by decide +kernel
theorem dX4_become_33 : decode cX4_become 33 = .ok (.aload_n 0, 1) := by decide +kernel
theorem dX4_become_34 : decode cX4_become 34 = .ok (.getfield 30, 3) := by decide +kernel
theorem dX4_become_37 : decode cX4_become 37 = .ok (.aload_n 1, 1) := by decide +kernel
theorem dX4_become_38 : decode cX4_become 38 = .ok (.getfield 30, 3) := by decide +kernel
theorem dX4_become_41 : decode cX4_become 41 = .ok (.invokevirtual 37, 3) := by decide +kernel
theorem dX4_become_44 : decode cX4_become 44 = .ok (.return_, 1) := by decide +kernel
theorem dX5_init_0 : decode cX5_init 0 = .ok (.aload_n 0, 1) := by decide +kernel
theorem dX5_init_1 : decode cX5_init 1 = .ok (.invokespecial 3, 3) := by decide +kernel
theorem dX5_init_4 : decode cX5_init 4 = .ok (.aload_n 0, 1) := by decide +kernel
theorem dX5_init_5 : decode cX5_init 5 = .ok (.bipush 6, 2) := by decide +kernel
theorem dX5_init_7 : decode cX5_init 7 = .ok (.newarray .int, 2) := by decide +kernel
theorem dX5_init_9 : decode cX5_init 9 = .ok (.putfield 9, 3) := by decide +kernel
theorem dX5_init_12 : decode cX5_init 12 = .ok (.aload_n 0, 1) := by decide +kernel
theorem dX5_init_13 : decode cX5_init 13 = .ok (.bipush 6, 2) := by decide +kernel
theorem dX5_init_15 : decode cX5_init 15 = .ok (.newarray .int, 2) := by decide +kernel
theorem dX5_init_17 : decode cX5_init 17 = .ok (.putfield 15, 3) := by decide +kernel
theorem dX5_init_20 : decode cX5_init 20 = .ok (.aload_n 0, 1) := by decide +kernel
theorem dX5_init_21 : decode cX5_init 21 = .ok (.bipush 6, 2) := by decide +kernel
theorem dX5_init_23 : decode cX5_init 23 = .ok (.newarray .int, 2) := by decide +kernel
theorem dX5_init_25 : decode cX5_init 25 = .ok (.putfield 18, 3) := by decide +kernel
theorem dX5_init_28 : decode cX5_init 28 = .ok (.aload_n 0, 1) := by decide +kernel
theorem dX5_init_29 : decode cX5_init 29 = .ok (.bipush 6, 2) := by decide +kernel
theorem dX5_init_31 : decode cX5_init 31 = .ok (.newarray .int, 2) := by decide +kernel
theorem dX5_init_33 : decode cX5_init 33 = .ok (.putfield 21, 3) := by decide +kernel
theorem dX5_init_36 : decode cX5_init 36 = .ok (.aload_n 0, 1) := by decide +kernel
theorem dX5_init_37 : decode cX5_init 37 = .ok (.bipush 6, 2) := by decide +kernel
theorem dX5_init_39 : decode cX5_init 39 = .ok (.newarray .int, 2) := by decide +kernel
theorem dX5_init_41 : decode cX5_init 41 = .ok (.putfield 24, 3) := by decide +kernel
theorem dX5_init_44 : decode cX5_init 44 = .ok (.aload_n 0, 1) := by decide +kernel
theorem dX5_init_45 : decode cX5_init 45 = .ok (.bipush 24, 2) := by decide +kernel
theorem dX5_init_47 : decode cX5_init 47 = .ok (.newarray .int, 2) := by decide +kernel
theorem dX5_init_49 : decode cX5_init 49 = .ok (.putfield 27, 3) := by decide +kernel
theorem dX5_init_52 : decode cX5_init 52 = .ok (.aload_n 0, 1) := by decide +kernel
theorem dX5_init_53 : decode cX5_init 53 = .ok (.bipush (-5), 2) := by decide +kernel
theorem dX5_init_55 : decode cX5_init 55 = .ok (.putfield 30, 3) := by decide +kernel
theorem dX5_init_58 : decode cX5_init 58 = .ok (.return_, 1) := by decide +kernel
theorem dX5_become_0 : decode cX5_become 0 = .ok (.aload_n 1, 1) := by decide +kernel
theorem dX5_become_1 : decode cX5_become 1 = .ok (.getfield 9, 3) := by decide +kernel
theorem dX5_become_4 : decode cX5_become 4 = .ok (.iconst 0, 1) := by decide +kernel
theorem dX5_become_5 : decode cX5_become 5 = .ok (.aload_n 0, 1) := by decide +kernel
theorem dX5_become_6 : decode cX5_become 6 = .ok (.getfield 9, 3) := by decide +kernel
theorem dX5_become_9 : decode cX5_become 9 = .ok (.iconst 0, 1) := by decide +kernel
theorem dX5_become_10 : decode cX5_become 10 = .ok (.bipush 6, 2) := by decide +kernel
theorem dX5_become_12 : decode cX5_become 12 = .ok (.invokestatic 34, 3) := by decide +kernel
theorem dX5_become_15 : decode cX5_become 15 = .ok (.aload_n 1, 1) := by decide +kernel
theorem dX5_become_16 : decode cX5_become 16 = .ok (.getfield 15, 3) := by decide +kernel
theorem dX5_become_19 : decode cX5_become 19 = .ok (.iconst 0, 1) := by decide +kernel
theorem dX5_become_20 : decode cX5_become 20 = .ok (.aload_n 0, 1) := by decide +kernel
theorem dX5_become_21 : decode cX5_become 21 = .ok (.getfield 15, 3) := by decide +kernel
theorem dX5_become_24 : decode cX5_become 24 = .ok (.iconst 0, 1) := by decide +kernel
theorem dX5_become_25 : decode cX5_become 25 = .ok (.bipush 6, 2) := by decide +kernel
theorem dX5_become_27 : decode cX5_become 27 = .ok (.invokestatic 34, 3) := by decide +kernel
theorem dX5_become_30 : decode cX5_become 30 = .ok (.aload_n 1, 1) := by decide +kernel
theorem dX5_become_31 : decode cX5_become 31 = .ok (.getfield 18, 3) := by decide +kernel
theorem dX5_become_34 : decode cX5_become 34 = .ok (.iconst 0, 1) := by decide +kernel
theorem dX5_become_35 : decode cX5_become 35 = .ok (.aload_n 0, 1) := by decide +kernel
theorem dX5_become_36 : decode cX5_become 36 = .ok (.getfield 18, 3) := by decide +kernel
theorem dX5_become_39 : decode cX5_become 39 = .ok (.iconst 0, 1) := by decide +kernel
theorem dX5_become_40 : decode cX5_become 40 = .ok (.bipush 6, 2) := by decide +kernel
theorem dX5_become_42 : decode cX5_become 42 = .ok (.invokestatic 34, 3) := by decide +kernel
theorem dX5_become_45 : decode cX5_become 45 = .ok (.aload_n 1, 1) := by decide +kernel
theorem dX5_become_46 : decode cX5_become 46 = .ok (.getfield 21, 3) := by decide +kernel
theorem dX5_become_49 : decode cX5_become 49 = .ok (.iconst 0, 1) := by decide +kernel
theorem dX5_become_50 : decode cX5_become 50 = .ok (.aload_n 0, 1) := by decide +kernel
theorem dX5_become_51 : decode cX5_become 51 = .ok (.getfield 21, 3) := by decide +kernel
theorem dX5_become_54 : decode cX5_become 54 = .ok (.iconst 0, 1) := by decide +kernel
theorem dX5_become_55 : decode cX5_become 55 = .ok (.bipush 6, 2) := by decide +kernel
theorem dX5_become_57 : decode cX5_become 57 = .ok (.invokestatic 34, 3) := by decide +kernel
theorem dX5_become_60 : decode cX5_become 60 = .ok (.aload_n 1, 1) := by decide +kernel
theorem dX5_become_61 : decode cX5_become 61 = .ok (.getfield 24, 3) := by decide +kernel
theorem dX5_become_64 : decode cX5_become 64 = .ok (.iconst 0, 1) := by decide +kernel
theorem dX5_become_65 : decode cX5_become 65 = .ok (.aload_n 0, 1) := by decide +kernel
theorem dX5_become_66 : decode cX5_become 66 = .ok (.getfield 24, 3) := by decide +kernel
theorem dX5_become_69 : decode cX5_become 69 = .ok (.iconst 0, 1) := by decide +kernel
theorem dX5_become_70 : decode cX5_become 70 = .ok (.bipush 6, 2) := by decide +kernel
theorem dX5_become_72 : decode cX5_become 72 = .ok (.invokestatic 34, 3) := by decide +kernel
theorem dX5_become_75 : decode cX5_become 75 = .ok (.aload_n 1, 1) := by decide +kernel
theorem dX5_become_76 : decode cX5_become 76 = .ok (.getfield 27, 3) := by decide +kernel
theorem dX5_become_79 : decode cX5_become 79 = .ok (.iconst 0, 1) := by decide +kernel
theorem dX5_become_80 : decode cX5_become 80 = .ok (.aload_n 0, 1) := by decide +kernel
theorem dX5_become_81 : decode cX5_become 81 = .ok (.getfield 27, 3) := by decide +kernel
theorem dX5_become_84 : decode cX5_become 84 = .ok (.iconst 0, 1) := by decide +kernel
theorem dX5_become_85 : decode cX5_become 85 = .ok (.bipush 24, 2) := by decide +kernel
theorem dX5_become_87 : decode cX5_become 87 = .ok (.invokestatic 34, 3) := by decide +kernel
theorem dX5_become_90 : decode cX5_become 90 = .ok (.aload_n 0, 1) := by decide +kernel
theorem dX5_become_91 : decode cX5_become 91 = .ok (.aload_n 1, 1) := by decide +kernel
theorem dX5_become_92 : decode cX5_become 92 = .ok (.getfield 40, 3) := by decide +kernel
theorem dX5_become_95 : decode cX5_become 95 = .ok (.putfield 40, 3) := by decide +kernel
theorem dX5_become_98 : decode cX5_become 98 = .ok (.aload_n 0, 1) := by decide +kernel
theorem dX5_become_99 : decode cX5_become 99 = .ok (.aload_n 1, 1) := by decide +kernel
theorem dX5_become_100 : decode cX5_become 100 = .ok (.getfield 43, 3) := by decide +kernel
theorem dX5_become_103 : decode cX5_become 103 = .ok (.putfield 43, 3) := by decide +kernel
theorem dX5_become_106 : decode cX5_become 106 = .ok (.aload_n 0, 1) := by decide +kernel
theorem dX5_become_107 : decode cX5_become 107 = .ok (.aload_n 1, 1) := by decide +kernel
theorem dX5_become_108 : decode cX5_become 108 = .ok (.getfield 46, 3) := by decide +kernel
theorem dX5_become_111 : decode cX5_become 111 = .ok (.putfield 46, 3) := by decide +kernel
theorem dX5_become_114 : decode cX5_become 114 = .ok (.aload_n 0, 1) := by decide +kernel
theorem dX5_become_115 : decode cX5_become 115 = .ok (.aload_n 1, 1) := by decide +kernel
theorem dX5_become_116 : decode cX5_become 116 = .ok (.getfield 49, 3) := by decide +kernel
theorem dX5_become_119 : decode cX5_become 119 = .ok (.putfield 49, 3) := by decide +kernel
theorem dX5_become_122 : decode cX5_become 122 = .ok (.aload_n 0, 1) := by decide +kernel
theorem dX5_become_123 : decode cX5_become 123 = .ok (.aload_n 1, 1) := by decide +kernel
theorem dX5_become_124 : decode cX5_become 124 = .ok (.getfield 30, 3) := by decide +kernel
theorem dX5_become_127 : decode cX5_become 127 = .ok (.putfield 30, 3) := by decide +kernel
theorem dX5_become_130 : decode cX5_become 130 = .ok (.aload_n 0, 1) := by decide +kernel
theorem dX5_become_131 : decode cX5_become 131 = .ok (.aload_n 1, 1) := by decide +kernel
theorem dX5_become_132 : decode cX5_become 132 = .ok (.getfield 52, 3) := by decide +kernel
theorem dX5_become_135 : decode cX5_become 135 = .ok (.putfield 52, 3) := by decide +kernel
theorem dX5_become_138 : decode cX5_become 138 = .ok (.return_, 1) := by decide +kernel
theorem dX5_has_0 : decode cX5_has 0 = .ok (.iload_n 1, 1) := by decide +kernel
theorem dX5_has_1 : decode cX5_has 1 = .ok (.ifCond .lt 15, 3) := by decide +kernel
theorem dX5_has_4 : decode cX5_has 4 = .ok (.iload_n 1, 1) := by decide +kernel
theorem dX5_has_5 : decode cX5_has 5 = .ok (.aload_n 0, 1) := by decide +kernel
theorem dX5_has_6 : decode cX5_has 6 = .ok (.getfield 40, 3) := by decide +kernel
theorem dX5_has_9 : decode cX5_has 9 = .ok (.if_icmp .ge 7, 3) := by decide +kernel
theorem dX5_has_12 : decode cX5_has 12 = .ok (.iconst 1, 1) := by decide +kernel
theorem dX5_has_13 : decode cX5_has 13 = .ok (.goto 4, 3) := by decide +kernel
theorem dX5_has_16 : decode cX5_has 16 = .ok (.iconst 0, 1) := by decide +kernel
theorem dX5_has_17 : decode cX5_has 17 = .ok (.ireturn, 1) := by decide +kernel
theorem dX5_join_0 : decode cX5_join 0 = .ok (.aload_n 0, 1) := by decide +kernel
theorem dX5_join_1 : decode cX5_join 1 = .ok (.getfield 40, 3) := by decide +kernel
theorem dX5_join_4 : decode cX5_join 4 = .ok (.bipush 6, 2) := by decide +kernel
theorem dX5_join_6 : decode cX5_join 6 = .ok (.if_icmp .lt 6, 3) := by decide +kernel
theorem dX5_join_9 : decode cX5_join 9 = .ok (.bipush (-4), 2) := by decide +kernel
theorem dX5_join_11 : decode cX5_join 11 = .ok (.ireturn, 1) := by decide +kernel
theorem dX5_join_12 : decode cX5_join 12 = .ok (.aload_n 0, 1) := by decide +kernel
theorem dX5_join_13 : decode cX5_join 13 = .ok (.getfield 40, 3) := by decide +kernel
theorem dX5_join_16 : decode cX5_join 16 = .ok (.istore 5, 2) := by decide +kernel
theorem dX5_join_18 : decode cX5_join 18 = .ok (.aload_n 0, 1) := by decide +kernel
theorem dX5_join_19 : decode cX5_join 19 = .ok (.getfield 9, 3) := by decide +kernel
theorem dX5_join_22 : decode cX5_join 22 = .ok (.iload 5, 2) := by decide +kernel
theorem dX5_join_24 : decode cX5_join 24 = .ok (.iload_n 1, 1) := by decide +kernel
theorem dX5_join_25 : decode cX5_join 25 = .ok (.iastore, 1) := by decide +kernel
theorem dX5_join_26 : decode cX5_join 26 = .ok (.aload_n 0, 1) := by decide +kernel
theorem dX5_join_27 : decode cX5_join 27 = .ok (.getfield 15, 3) := by decide +kernel
theorem dX5_join_30 : decode cX5_join 30 = .ok (.iload 5, 2) := by decide +kernel
theorem dX5_join_32 : decode cX5_join 32 = .ok (.iload_n 2, 1) := by decide +kernel
theorem dX5_join_33 : decode cX5_join 33 = .ok (.iastore, 1) := by decide +kernel
theorem dX5_join_34 : decode cX5_join 34 = .ok (.aload_n 0, 1) := by decide +kernel
theorem dX5_join_35 : decode cX5_join 35 = .ok (.getfield 18, 3) := by decide +kernel
theorem dX5_join_38 : decode cX5_join 38 = .ok (.iload 5, 2) := by decide +kernel
theorem dX5_join_40 : decode cX5_join 40 = .ok (.iload_n 3, 1) := by decide +kernel
theorem dX5_join_41 : decode cX5_join 41 = .ok (.iastore, 1) := by decide +kernel
theorem dX5_join_42 : decode cX5_join 42 = .ok (.aload_n 0, 1) := by decide +kernel
theorem dX5_join_43 : decode cX5_join 43 = .ok (.getfield 21, 3) := by decide +kernel
theorem dX5_join_46 : decode cX5_join 46 = .ok (.iload 5, 2) := by decide +kernel
theorem dX5_join_48 : decode cX5_join 48 = .ok (.iload 4, 2) := by decide +kernel
theorem dX5_join_50 : decode cX5_join 50 = .ok (.iastore, 1) := by decide +kernel
theorem dX5_join_51 : decode cX5_join 51 = .ok (.aload_n 0, 1) := by decide +kernel
theorem dX5_join_52 : decode cX5_join 52 = .ok (.dup, 1) := by decide +kernel
theorem dX5_join_53 : decode cX5_join 53 = .ok (.getfield 40, 3) := by decide +kernel
theorem dX5_join_56 : decode cX5_join 56 = .ok (.iconst 1, 1) := by decide +kernel
theorem dX5_join_57 : decode cX5_join 57 = .ok (.iadd, 1) := by decide +kernel
theorem dX5_join_58 : decode cX5_join 58 = .ok (.putfield 40, 3) := by decide +kernel
theorem dX5_join_61 : decode cX5_join 61 = .ok (.iload 5, 2) := by decide +kernel
theorem dX5_join_63 : decode cX5_join 63 = .ok (.ireturn, 1) := by decide +kernel
theorem dX5_holder_0 : decode cX5_holder 0 = .ok (.aload_n 0, 1) := by decide +kernel
theorem dX5_holder_1 : decode cX5_holder 1 = .ok (.getfield 40, 3) := by decide +kernel
theorem dX5_holder_4 : decode cX5_holder 4 = .ok (.ifCond .ne 8, 3) := by decide +kernel
theorem dX5_holder_7 : decode cX5_holder 7 = .ok (.bipush (-5), 2) := by decide +kernel
theorem dX5_holder_9 : decode cX5_holder 9 = .ok (.goto 7, 3) := by decide +kernel
theorem dX5_holder_12 : decode cX5_holder 12 = .ok (.aload_n 0, 1) := by decide +kernel
theorem dX5_holder_13 : decode cX5_holder 13 = .ok (.getfield 43, 3) := by decide +kernel
theorem dX5_holder_16 : decode cX5_holder 16 = .ok (.ireturn, 1) := by decide +kernel
theorem dX5_hand_0 : decode cX5_hand 0 = .ok (.aload_n 0, 1) := by decide +kernel
theorem dX5_hand_1 : decode cX5_hand 1 = .ok (.iload_n 1, 1) := by decide +kernel
theorem dX5_hand_2 : decode cX5_hand 2 = .ok (.putfield 43, 3) := by decide +kernel
theorem dX5_hand_5 : decode cX5_hand 5 = .ok (.aload_n 0, 1) := by decide +kernel
theorem dX5_hand_6 : decode cX5_hand 6 = .ok (.bipush (-5), 2) := by decide +kernel
theorem dX5_hand_8 : decode cX5_hand 8 = .ok (.putfield 30, 3) := by decide +kernel
theorem dX5_hand_11 : decode cX5_hand 11 = .ok (.return_, 1) := by decide +kernel
theorem dX5_isAtEnd_0 : decode cX5_isAtEnd 0 = .ok (.aload_n 0, 1) := by decide +kernel
theorem dX5_isAtEnd_1 : decode cX5_isAtEnd 1 = .ok (.getfield 30, 3) := by decide +kernel
theorem dX5_isAtEnd_4 : decode cX5_isAtEnd 4 = .ok (.bipush (-5), 2) := by decide +kernel
theorem dX5_isAtEnd_6 : decode cX5_isAtEnd 6 = .ok (.if_icmp .eq 7, 3) := by decide +kernel
theorem dX5_isAtEnd_9 : decode cX5_isAtEnd 9 = .ok (.iconst 1, 1) := by decide +kernel
theorem dX5_isAtEnd_10 : decode cX5_isAtEnd 10 = .ok (.goto 4, 3) := by decide +kernel
theorem dX5_isAtEnd_13 : decode cX5_isAtEnd 13 = .ok (.iconst 0, 1) := by decide +kernel
theorem dX5_isAtEnd_14 : decode cX5_isAtEnd 14 = .ok (.ireturn, 1) := by decide +kernel
theorem dX5_bucket_0 : decode cX5_bucket 0 = .ok (.iload_n 1, 1) := by decide +kernel
theorem dX5_bucket_1 : decode cX5_bucket 1 = .ok (.lookupswitch 37 #[(0, 27), (1, 32)], 27) := by decide +kernel
theorem dX5_bucket_28 : decode cX5_bucket 28 = .ok (.aload_n 0, 1) := by decide +kernel
theorem dX5_bucket_29 : decode cX5_bucket 29 = .ok (.invokevirtual 56, 3) := by decide +kernel
theorem dX5_bucket_32 : decode cX5_bucket 32 = .ok (.ireturn, 1) := by decide +kernel
theorem dX5_bucket_33 : decode cX5_bucket 33 = .ok (.aload_n 0, 1) := by decide +kernel
theorem dX5_bucket_34 : decode cX5_bucket 34 = .ok (.getfield 46, 3) := by decide +kernel
theorem dX5_bucket_37 : decode cX5_bucket 37 = .ok (.ireturn, 1) := by decide +kernel
theorem dX5_bucket_38 : decode cX5_bucket 38 = .ok (.aload_n 0, 1) := by decide +kernel
theorem dX5_bucket_39 : decode cX5_bucket 39 = .ok (.getfield 30, 3) := by decide +kernel
theorem dX5_bucket_42 : decode cX5_bucket 42 = .ok (.ireturn, 1) := by decide +kernel
theorem dX5_far_0 : decode cX5_far 0 = .ok (.aload_n 0, 1) := by decide +kernel
theorem dX5_far_1 : decode cX5_far 1 = .ok (.getfield 52, 3) := by decide +kernel
theorem dX5_far_4 : decode cX5_far 4 = .ok (.ifnonnull 8, 3) := by decide +kernel
theorem dX5_far_7 : decode cX5_far 7 = .ok (.bipush 12, 2) := by decide +kernel
theorem dX5_far_9 : decode cX5_far 9 = .ok (.goto 10, 3) := by decide +kernel
theorem dX5_far_12 : decode cX5_far 12 = .ok (.aload_n 0, 1) := by decide +kernel
theorem dX5_far_13 : decode cX5_far 13 = .ok (.getfield 52, 3) := by decide +kernel
theorem dX5_far_16 : decode cX5_far 16 = .ok (.getfield 60, 3) := by decide +kernel
theorem dX5_far_19 : decode cX5_far 19 = .ok (.ireturn, 1) := by decide +kernel
theorem dX5_cost_0 : decode cX5_cost 0 = .ok (.aload_n 0, 1) := by decide +kernel
theorem dX5_cost_1 : decode cX5_cost 1 = .ok (.getfield 52, 3) := by decide +kernel
theorem dX5_cost_4 : decode cX5_cost 4 = .ok (.ifnonnull 7, 3) := by decide +kernel
theorem dX5_cost_7 : decode cX5_cost 7 = .ok (.iconst 5, 1) := by decide +kernel
theorem dX5_cost_8 : decode cX5_cost 8 = .ok (.goto 10, 3) := by decide +kernel
theorem dX5_cost_11 : decode cX5_cost 11 = .ok (.aload_n 0, 1) := by decide +kernel
theorem dX5_cost_12 : decode cX5_cost 12 = .ok (.getfield 52, 3) := by decide +kernel
theorem dX5_cost_15 : decode cX5_cost 15 = .ok (.getfield 65, 3) := by decide +kernel
theorem dX5_cost_18 : decode cX5_cost 18 = .ok (.ireturn, 1) := by decide +kernel
theorem dX5_rain_0 : decode cX5_rain 0 = .ok (.aload_n 0, 1) := by decide +kernel
theorem dX5_rain_1 : decode cX5_rain 1 = .ok (.getfield 52, 3) := by decide +kernel
theorem dX5_rain_4 : decode cX5_rain 4 = .ok (.ifnonnull 7, 3) := by decide +kernel
theorem dX5_rain_7 : decode cX5_rain 7 = .ok (.iconst 0, 1) := by decide +kernel
theorem dX5_rain_8 : decode cX5_rain 8 = .ok (.goto 12, 3) := by decide +kernel
theorem dX5_rain_11 : decode cX5_rain 11 = .ok (.aload_n 0, 1) := by decide +kernel
theorem dX5_rain_12 : decode cX5_rain 12 = .ok (.getfield 52, 3) := by decide +kernel
theorem dX5_rain_15 : decode cX5_rain 15 = .ok (.aload_n 0, 1) := by decide +kernel
theorem dX5_rain_16 : decode cX5_rain 16 = .ok (.iload_n 1, 1) := by decide +kernel
theorem dX5_rain_17 : decode cX5_rain 17 = .ok (.invokevirtual 68, 3) := by decide +kernel
theorem dX5_rain_20 : decode cX5_rain 20 = .ok (.ireturn, 1) := by decide +kernel
theorem dX5_fact_0 : decode cX5_fact 0 = .ok (.iload_n 1, 1) := by decide +kernel
theorem dX5_fact_1 : decode cX5_fact 1 = .ok (.tableswitch 66 0 4 #[35, 37, 44, 51, 58], 35) := by decide +kernel
theorem dX5_fact_36 : decode cX5_fact 36 = .ok (.iload_n 2, 1) := by decide +kernel
theorem dX5_fact_37 : decode cX5_fact 37 = .ok (.ireturn, 1) := by decide +kernel
theorem dX5_fact_38 : decode cX5_fact 38 = .ok (.aload_n 0, 1) := by decide +kernel
theorem dX5_fact_39 : decode cX5_fact 39 = .ok (.getfield 9, 3) := by decide +kernel
theorem dX5_fact_42 : decode cX5_fact 42 = .ok (.iload_n 2, 1) := by decide +kernel
theorem dX5_fact_43 : decode cX5_fact 43 = .ok (.iaload, 1) := by decide +kernel
theorem dX5_fact_44 : decode cX5_fact 44 = .ok (.ireturn, 1) := by decide +kernel
theorem dX5_fact_45 : decode cX5_fact 45 = .ok (.aload_n 0, 1) := by decide +kernel
theorem dX5_fact_46 : decode cX5_fact 46 = .ok (.getfield 18, 3) := by decide +kernel
theorem dX5_fact_49 : decode cX5_fact 49 = .ok (.iload_n 2, 1) := by decide +kernel
theorem dX5_fact_50 : decode cX5_fact 50 = .ok (.iaload, 1) := by decide +kernel
theorem dX5_fact_51 : decode cX5_fact 51 = .ok (.ireturn, 1) := by decide +kernel
theorem dX5_fact_52 : decode cX5_fact 52 = .ok (.aload_n 0, 1) := by decide +kernel
theorem dX5_fact_53 : decode cX5_fact 53 = .ok (.getfield 21, 3) := by decide +kernel
theorem dX5_fact_56 : decode cX5_fact 56 = .ok (.iload_n 2, 1) := by decide +kernel
theorem dX5_fact_57 : decode cX5_fact 57 = .ok (.iaload, 1) := by decide +kernel
theorem dX5_fact_58 : decode cX5_fact 58 = .ok (.ireturn, 1) := by decide +kernel
theorem dX5_fact_59 : decode cX5_fact 59 = .ok (.aload_n 0, 1) := by decide +kernel
theorem dX5_fact_60 : decode cX5_fact 60 = .ok (.getfield 46, 3) := by decide +kernel
theorem dX5_fact_63 : decode cX5_fact 63 = .ok (.bipush 10, 2) := by decide +kernel
theorem dX5_fact_65 : decode cX5_fact 65 = .ok (.idiv, 1) := by decide +kernel
theorem dX5_fact_66 : decode cX5_fact 66 = .ok (.ireturn, 1) := by decide +kernel
theorem dX5_fact_67 : decode cX5_fact 67 = .ok (.aload_n 0, 1) := by decide +kernel
theorem dX5_fact_68 : decode cX5_fact 68 = .ok (.getfield 49, 3) := by decide +kernel
theorem dX5_fact_71 : decode cX5_fact 71 = .ok (.bipush 10, 2) := by decide +kernel
theorem dX5_fact_73 : decode cX5_fact 73 = .ok (.irem, 1) := by decide +kernel
theorem dX5_fact_74 : decode cX5_fact 74 = .ok (.ireturn, 1) := by decide +kernel
theorem dX5_reach_0 : decode cX5_reach 0 = .ok (.iconst 0, 1) := by decide +kernel
theorem dX5_reach_1 : decode cX5_reach 1 = .ok (.aload_n 0, 1) := by decide +kernel
theorem dX5_reach_2 : decode cX5_reach 2 = .ok (.invokevirtual 72, 3) := by decide +kernel
theorem dX5_reach_5 : decode cX5_reach 5 = .ok (.aload_n 0, 1) := by decide +kernel
theorem dX5_reach_6 : decode cX5_reach 6 = .ok (.getfield 46, 3) := by decide +kernel
theorem dX5_reach_9 : decode cX5_reach 9 = .ok (.bipush 8, 2) := by decide +kernel
theorem dX5_reach_11 : decode cX5_reach 11 = .ok (.idiv, 1) := by decide +kernel
theorem dX5_reach_12 : decode cX5_reach 12 = .ok (.isub, 1) := by decide +kernel
theorem dX5_reach_13 : decode cX5_reach 13 = .ok (.invokestatic 74, 3) := by decide +kernel
theorem dX5_reach_16 : decode cX5_reach 16 = .ok (.istore_n 2, 1) := by decide +kernel
theorem dX5_reach_17 : decode cX5_reach 17 = .ok (.iconst 0, 1) := by decide +kernel
theorem dX5_reach_18 : decode cX5_reach 18 = .ok (.iload_n 2, 1) := by decide +kernel
theorem dX5_reach_19 : decode cX5_reach 19 = .ok (.aload_n 0, 1) := by decide +kernel
theorem dX5_reach_20 : decode cX5_reach 20 = .ok (.getfield 15, 3) := by decide +kernel
theorem dX5_reach_23 : decode cX5_reach 23 = .ok (.iload_n 1, 1) := by decide +kernel
theorem dX5_reach_24 : decode cX5_reach 24 = .ok (.iaload, 1) := by decide +kernel
theorem dX5_reach_25 : decode cX5_reach 25 = .ok (.iconst 2, 1) := by decide +kernel
theorem dX5_reach_26 : decode cX5_reach 26 = .ok (.idiv, 1) := by decide +kernel
theorem dX5_reach_27 : decode cX5_reach 27 = .ok (.isub, 1) := by decide +kernel
theorem dX5_reach_28 : decode cX5_reach 28 = .ok (.invokestatic 74, 3) := by decide +kernel
theorem dX5_reach_31 : decode cX5_reach 31 = .ok (.istore_n 3, 1) := by decide +kernel
theorem dX5_reach_32 : decode cX5_reach 32 = .ok (.aload_n 0, 1) := by decide +kernel
theorem dX5_reach_33 : decode cX5_reach 33 = .ok (.getfield 9, 3) := by decide +kernel
theorem dX5_reach_36 : decode cX5_reach 36 = .ok (.iload_n 1, 1) := by decide +kernel
theorem dX5_reach_37 : decode cX5_reach 37 = .ok (.iaload, 1) := by decide +kernel
theorem dX5_reach_38 : decode cX5_reach 38 = .ok (.tableswitch 82 1 6 #[38, 44, 82, 40, 48, 64], 38) := by decide +kernel
theorem dX5_reach_76 : decode cX5_reach 76 = .ok (.iload_n 3, 1) := by decide +kernel
theorem dX5_reach_77 : decode cX5_reach 77 = .ok (.ireturn, 1) := by decide +kernel
theorem dX5_reach_78 : decode cX5_reach 78 = .ok (.iload_n 3, 1) := by decide +kernel
theorem dX5_reach_79 : decode cX5_reach 79 = .ok (.iconst 2, 1) := by decide +kernel
theorem dX5_reach_80 : decode cX5_reach 80 = .ok (.idiv, 1) := by decide +kernel
theorem dX5_reach_81 : decode cX5_reach 81 = .ok (.ireturn, 1) := by decide +kernel
theorem dX5_reach_82 : decode cX5_reach 82 = .ok (.iload_n 2, 1) := by decide +kernel
theorem dX5_reach_83 : decode cX5_reach 83 = .ok (.iconst 2, 1) := by decide +kernel
theorem dX5_reach_84 : decode cX5_reach 84 = .ok (.iadd, 1) := by decide +kernel
theorem dX5_reach_85 : decode cX5_reach 85 = .ok (.ireturn, 1) := by decide +kernel
theorem dX5_reach_86 : decode cX5_reach 86 = .ok (.aload_n 0, 1) := by decide +kernel
theorem dX5_reach_87 : decode cX5_reach 87 = .ok (.iload_n 1, 1) := by decide +kernel
theorem dX5_reach_88 : decode cX5_reach 88 = .ok (.invokevirtual 80, 3) := by decide +kernel
theorem dX5_reach_91 : decode cX5_reach 91 = .ok (.ifCond .eq 7, 3) := by decide +kernel
theorem dX5_reach_94 : decode cX5_reach 94 = .ok (.iconst 0, 1) := by decide +kernel
theorem dX5_reach_95 : decode cX5_reach 95 = .ok (.goto 6, 3) := by decide +kernel
theorem dX5_reach_98 : decode cX5_reach 98 = .ok (.iload_n 2, 1) := by decide +kernel
theorem dX5_reach_99 : decode cX5_reach 99 = .ok (.iconst 2, 1) := by decide +kernel
theorem dX5_reach_100 : decode cX5_reach 100 = .ok (.iadd, 1) := by decide +kernel
theorem dX5_reach_101 : decode cX5_reach 101 = .ok (.ireturn, 1) := by decide +kernel
theorem dX5_reach_102 : decode cX5_reach 102 = .ok (.iload_n 2, 1) := by decide +kernel
theorem dX5_reach_103 : decode cX5_reach 103 = .ok (.aload_n 0, 1) := by decide +kernel
theorem dX5_reach_104 : decode cX5_reach 104 = .ok (.getfield 27, 3) := by decide +kernel
theorem dX5_reach_107 : decode cX5_reach 107 = .ok (.iload_n 1, 1) := by decide +kernel
theorem dX5_reach_108 : decode cX5_reach 108 = .ok (.iconst 4, 1) := by decide +kernel
theorem dX5_reach_109 : decode cX5_reach 109 = .ok (.imul, 1) := by decide +kernel
theorem dX5_reach_110 : decode cX5_reach 110 = .ok (.aload_n 0, 1) := by decide +kernel
theorem dX5_reach_111 : decode cX5_reach 111 = .ok (.getfield 49, 3) := by decide +kernel
theorem dX5_reach_114 : decode cX5_reach 114 = .ok (.iconst 4, 1) := by decide +kernel
theorem dX5_reach_115 : decode cX5_reach 115 = .ok (.irem, 1) := by decide +kernel
theorem dX5_reach_116 : decode cX5_reach 116 = .ok (.iadd, 1) := by decide +kernel
theorem dX5_reach_117 : decode cX5_reach 117 = .ok (.iaload, 1) := by decide +kernel
theorem dX5_reach_118 : decode cX5_reach 118 = .ok (.iadd, 1) := by decide +kernel
theorem dX5_reach_119 : decode cX5_reach 119 = .ok (.ireturn, 1) := by decide +kernel
theorem dX5_reach_120 : decode cX5_reach 120 = .ok (.iload_n 2, 1) := by decide +kernel
theorem dX5_reach_121 : decode cX5_reach 121 = .ok (.ireturn, 1) := by decide +kernel
theorem dX5_isDreadfulNow_0 : decode cX5_isDreadfulNow 0 = .ok (.aload_n 0, 1) := by decide +kernel
theorem dX5_isDreadfulNow_1 : decode cX5_isDreadfulNow 1 = .ok (.getfield 15, 3) := by decide +kernel
theorem dX5_isDreadfulNow_4 : decode cX5_isDreadfulNow 4 = .ok (.iload_n 1, 1) := by decide +kernel
theorem dX5_isDreadfulNow_5 : decode cX5_isDreadfulNow 5 = .ok (.iaload, 1) := by decide +kernel
theorem dX5_isDreadfulNow_6 : decode cX5_isDreadfulNow 6 = .ok (.iconst 2, 1) := by decide +kernel
theorem dX5_isDreadfulNow_7 : decode cX5_isDreadfulNow 7 = .ok (.iadd, 1) := by decide +kernel
theorem dX5_isDreadfulNow_8 : decode cX5_isDreadfulNow 8 = .ok (.istore_n 2, 1) := by decide +kernel
theorem dX5_isDreadfulNow_9 : decode cX5_isDreadfulNow 9 = .ok (.iload_n 2, 1) := by decide +kernel
theorem dX5_isDreadfulNow_10 : decode cX5_isDreadfulNow 10 = .ok (.ifCond .le 16, 3) := by decide +kernel
theorem dX5_isDreadfulNow_13 : decode cX5_isDreadfulNow 13 = .ok (.aload_n 0, 1) := by decide +kernel
theorem dX5_isDreadfulNow_14 : decode cX5_isDreadfulNow 14 = .ok (.getfield 49, 3) := by decide +kernel
theorem dX5_isDreadfulNow_17 : decode cX5_isDreadfulNow 17 = .ok (.iload_n 2, 1) := by decide +kernel
theorem dX5_isDreadfulNow_18 : decode cX5_isDreadfulNow 18 = .ok (.irem, 1) := by decide +kernel
theorem dX5_isDreadfulNow_19 : decode cX5_isDreadfulNow 19 = .ok (.ifCond .ne 7, 3) := by decide +kernel
theorem dX5_isDreadfulNow_22 : decode cX5_isDreadfulNow 22 = .ok (.iconst 1, 1) := by decide +kernel
theorem dX5_isDreadfulNow_23 : decode cX5_isDreadfulNow 23 = .ok (.goto 4, 3) := by decide +kernel
theorem dX5_isDreadfulNow_26 : decode cX5_isDreadfulNow 26 = .ok (.iconst 0, 1) := by decide +kernel
theorem dX5_isDreadfulNow_27 : decode cX5_isDreadfulNow 27 = .ok (.ireturn, 1) := by decide +kernel
theorem dX5_way_0 : decode cX5_way 0 = .ok (.aload_n 0, 1) := by decide +kernel
theorem dX5_way_1 : decode cX5_way 1 = .ok (.getfield 18, 3) := by decide +kernel
theorem dX5_way_4 : decode cX5_way 4 = .ok (.iload_n 1, 1) := by decide +kernel
theorem dX5_way_5 : decode cX5_way 5 = .ok (.iaload, 1) := by decide +kernel
theorem dX5_way_6 : decode cX5_way 6 = .ok (.aload_n 0, 1) := by decide +kernel
theorem dX5_way_7 : decode cX5_way 7 = .ok (.getfield 18, 3) := by decide +kernel
theorem dX5_way_10 : decode cX5_way 10 = .ok (.iload_n 2, 1) := by decide +kernel
theorem dX5_way_11 : decode cX5_way 11 = .ok (.iaload, 1) := by decide +kernel
theorem dX5_way_12 : decode cX5_way 12 = .ok (.isub, 1) := by decide +kernel
theorem dX5_way_13 : decode cX5_way 13 = .ok (.invokestatic 84, 3) := by decide +kernel
theorem dX5_way_16 : decode cX5_way 16 = .ok (.ireturn, 1) := by decide +kernel
theorem dX5_target_0 : decode cX5_target 0 = .ok (.aload_n 0, 1) := by decide +kernel
theorem dX5_target_1 : decode cX5_target 1 = .ok (.getfield 9, 3) := by decide +kernel
theorem dX5_target_4 : decode cX5_target 4 = .ok (.iload_n 1, 1) := by decide +kernel
theorem dX5_target_5 : decode cX5_target 5 = .ok (.iaload, 1) := by decide +kernel
theorem dX5_target_6 : decode cX5_target 6 = .ok (.tableswitch 67 2 6 #[34, 61, 67, 34, 61], 34) := by decide +kernel
theorem dX5_target_40 : decode cX5_target 40 = .ok (.aload_n 0, 1) := by decide +kernel
theorem dX5_target_41 : decode cX5_target 41 = .ok (.iload_n 1, 1) := by decide +kernel
theorem dX5_target_42 : decode cX5_target 42 = .ok (.aload_n 0, 1) := by decide +kernel
theorem dX5_target_43 : decode cX5_target 43 = .ok (.iload_n 1, 1) := by decide +kernel
theorem dX5_target_44 : decode cX5_target 44 = .ok (.invokevirtual 88, 3) := by decide +kernel
theorem dX5_target_47 : decode cX5_target 47 = .ok (.invokevirtual 91, 3) := by decide +kernel
theorem dX5_target_50 : decode cX5_target 50 = .ok (.istore_n 2, 1) := by decide +kernel
theorem dX5_target_51 : decode cX5_target 51 = .ok (.iload_n 2, 1) := by decide +kernel
theorem dX5_target_52 : decode cX5_target 52 = .ok (.bipush (-5), 2) := by decide +kernel
theorem dX5_target_54 : decode cX5_target 54 = .ok (.if_icmp .ne 11, 3) := by decide +kernel
theorem dX5_target_57 : decode cX5_target 57 = .ok (.aload_n 0, 1) := by decide +kernel
theorem dX5_target_58 : decode cX5_target 58 = .ok (.iload_n 1, 1) := by decide +kernel
theorem dX5_target_59 : decode cX5_target 59 = .ok (.invokevirtual 94, 3) := by decide +kernel
theorem dX5_target_62 : decode cX5_target 62 = .ok (.goto 4, 3) := by decide +kernel
theorem dX5_target_65 : decode cX5_target 65 = .ok (.iload_n 2, 1) := by decide +kernel
theorem dX5_target_66 : decode cX5_target 66 = .ok (.ireturn, 1) := by decide +kernel
theorem dX5_target_67 : decode cX5_target 67 = .ok (.aload_n 0, 1) := by decide +kernel
theorem dX5_target_68 : decode cX5_target 68 = .ok (.iload_n 1, 1) := by decide +kernel
theorem dX5_target_69 : decode cX5_target 69 = .ok (.invokevirtual 97, 3) := by decide +kernel
theorem dX5_target_72 : decode cX5_target 72 = .ok (.ireturn, 1) := by decide +kernel
theorem dX5_target_73 : decode cX5_target 73 = .ok (.aload_n 0, 1) := by decide +kernel
theorem dX5_target_74 : decode cX5_target 74 = .ok (.iload_n 1, 1) := by decide +kernel
theorem dX5_target_75 : decode cX5_target 75 = .ok (.invokevirtual 94, 3) := by decide +kernel
theorem dX5_target_78 : decode cX5_target 78 = .ok (.ireturn, 1) := by decide +kernel
theorem dX5_nearest_0 : decode cX5_nearest 0 = .ok (.bipush (-5), 2) := by decide +kernel
theorem dX5_nearest_2 : decode cX5_nearest 2 = .ok (.istore_n 2, 1) := by decide +kernel
theorem dX5_nearest_3 : decode cX5_nearest 3 = .ok (.iconst 0, 1) := by decide +kernel
theorem dX5_nearest_4 : decode cX5_nearest 4 = .ok (.istore_n 3, 1) := by decide +kernel
theorem dX5_nearest_5 : decode cX5_nearest 5 = .ok (.iload_n 3, 1) := by decide +kernel
theorem dX5_nearest_6 : decode cX5_nearest 6 = .ok (.aload_n 0, 1) := by decide +kernel
theorem dX5_nearest_7 : decode cX5_nearest 7 = .ok (.getfield 40, 3) := by decide +kernel
theorem dX5_nearest_10 : decode cX5_nearest 10 = .ok (.if_icmp .ge 37, 3) := by decide +kernel
theorem dX5_nearest_13 : decode cX5_nearest 13 = .ok (.iload_n 3, 1) := by decide +kernel
theorem dX5_nearest_14 : decode cX5_nearest 14 = .ok (.iload_n 1, 1) := by decide +kernel
theorem dX5_nearest_15 : decode cX5_nearest 15 = .ok (.if_icmp .eq 26, 3) := by decide +kernel
theorem dX5_nearest_18 : decode cX5_nearest 18 = .ok (.iload_n 2, 1) := by decide +kernel
theorem dX5_nearest_19 : decode cX5_nearest 19 = .ok (.bipush (-5), 2) := by decide +kernel
theorem dX5_nearest_21 : decode cX5_nearest 21 = .ok (.if_icmp .eq 18, 3) := by decide +kernel
theorem dX5_nearest_24 : decode cX5_nearest 24 = .ok (.aload_n 0, 1) := by decide +kernel
theorem dX5_nearest_25 : decode cX5_nearest 25 = .ok (.iload_n 1, 1) := by decide +kernel
theorem dX5_nearest_26 : decode cX5_nearest 26 = .ok (.iload_n 3, 1) := by decide +kernel
theorem dX5_nearest_27 : decode cX5_nearest 27 = .ok (.invokevirtual 100, 3) := by decide +kernel
theorem dX5_nearest_30 : decode cX5_nearest 30 = .ok (.aload_n 0, 1) := by decide +kernel
theorem dX5_nearest_31 : decode cX5_nearest 31 = .ok (.iload_n 1, 1) := by decide +kernel
theorem dX5_nearest_32 : decode cX5_nearest 32 = .ok (.iload_n 2, 1) := by decide +kernel
theorem dX5_nearest_33 : decode cX5_nearest 33 = .ok (.invokevirtual 100, 3) := by decide +kernel
theorem dX5_nearest_36 : decode cX5_nearest 36 = .ok (.if_icmp .ge 5, 3) := by decide +kernel
theorem dX5_nearest_39 : decode cX5_nearest 39 = .ok (.iload_n 3, 1) := by decide +kernel
theorem dX5_nearest_40 : decode cX5_nearest 40 = .ok (.istore_n 2, 1) := by decide +kernel
theorem dX5_nearest_41 : decode cX5_nearest 41 = .ok (.iinc 3 1, 3) := by decide +kernel
theorem dX5_nearest_44 : decode cX5_nearest 44 = .ok (.goto (-39), 3) := by decide +kernel
theorem dX5_nearest_47 : decode cX5_nearest 47 = .ok (.iload_n 2, 1) := by decide +kernel
theorem dX5_nearest_48 : decode cX5_nearest 48 = .ok (.ireturn, 1) := by decide +kernel
theorem dX5_farthestWithin_0 : decode cX5_farthestWithin 0 = .ok (.bipush (-5), 2) := by decide +kernel
theorem dX5_farthestWithin_2 : decode cX5_farthestWithin 2 = .ok (.istore_n 3, 1) := by decide +kernel
theorem dX5_farthestWithin_3 : decode cX5_farthestWithin 3 = .ok (.iconst 0, 1) := by decide +kernel
theorem dX5_farthestWithin_4 : decode cX5_farthestWithin 4 = .ok (.istore 4, 2) := by decide +kernel
theorem dX5_farthestWithin_6 : decode cX5_farthestWithin 6 = .ok (.iload 4, 2) := by decide +kernel
theorem dX5_farthestWithin_8 : decode cX5_farthestWithin 8 = .ok (.aload_n 0, 1) := by decide +kernel
theorem dX5_farthestWithin_9 : decode cX5_farthestWithin 9 = .ok (.getfield 40, 3) := by decide +kernel
theorem dX5_farthestWithin_12 : decode cX5_farthestWithin 12 = .ok (.if_icmp .ge 51, 3) := by decide +kernel
theorem dX5_farthestWithin_15 : decode cX5_farthestWithin 15 = .ok (.iload 4, 2) := by decide +kernel
theorem dX5_farthestWithin_17 : decode cX5_farthestWithin 17 = .ok (.iload_n 1, 1) := by decide +kernel
theorem dX5_farthestWithin_18 : decode cX5_farthestWithin 18 = .ok (.if_icmp .eq 39, 3) := by decide +kernel
theorem dX5_farthestWithin_21 : decode cX5_farthestWithin 21 = .ok (.aload_n 0, 1) := by decide +kernel
theorem dX5_farthestWithin_22 : decode cX5_farthestWithin 22 = .ok (.iload_n 1, 1) := by decide +kernel
theorem dX5_farthestWithin_23 : decode cX5_farthestWithin 23 = .ok (.iload 4, 2) := by decide +kernel
theorem dX5_farthestWithin_25 : decode cX5_farthestWithin 25 = .ok (.invokevirtual 100, 3) := by decide +kernel
theorem dX5_farthestWithin_28 : decode cX5_farthestWithin 28 = .ok (.iload_n 2, 1) := by decide +kernel
theorem dX5_farthestWithin_29 : decode cX5_farthestWithin 29 = .ok (.if_icmp .gt 28, 3) := by decide +kernel
theorem dX5_farthestWithin_32 : decode cX5_farthestWithin 32 = .ok (.iload_n 3, 1) := by decide +kernel
theorem dX5_farthestWithin_33 : decode cX5_farthestWithin 33 = .ok (.bipush (-5), 2) := by decide +kernel
theorem dX5_farthestWithin_35 : decode cX5_farthestWithin 35 = .ok (.if_icmp .eq 19, 3) := by decide +kernel
theorem dX5_farthestWithin_38 : decode cX5_farthestWithin 38 = .ok (.aload_n 0, 1) := by decide +kernel
theorem dX5_farthestWithin_39 : decode cX5_farthestWithin 39 = .ok (.iload_n 1, 1) := by decide +kernel
theorem dX5_farthestWithin_40 : decode cX5_farthestWithin 40 = .ok (.iload 4, 2) := by decide +kernel
theorem dX5_farthestWithin_42 : decode cX5_farthestWithin 42 = .ok (.invokevirtual 100, 3) := by decide +kernel
theorem dX5_farthestWithin_45 : decode cX5_farthestWithin 45 = .ok (.aload_n 0, 1) := by decide +kernel
theorem dX5_farthestWithin_46 : decode cX5_farthestWithin 46 = .ok (.iload_n 1, 1) := by decide +kernel
theorem dX5_farthestWithin_47 : decode cX5_farthestWithin 47 = .ok (.iload_n 3, 1) := by decide +kernel
theorem dX5_farthestWithin_48 : decode cX5_farthestWithin 48 = .ok (.invokevirtual 100, 3) := by decide +kernel
theorem dX5_farthestWithin_51 : decode cX5_farthestWithin 51 = .ok (.if_icmp .le 6, 3) := by decide +kernel
theorem dX5_farthestWithin_54 : decode cX5_farthestWithin 54 = .ok (.iload 4, 2) := by decide +kernel
theorem dX5_farthestWithin_56 : decode cX5_farthestWithin 56 = .ok (.istore_n 3, 1) := by decide +kernel
theorem dX5_farthestWithin_57 : decode cX5_farthestWithin 57 = .ok (.iinc 4 1, 3) := by decide +kernel
theorem dX5_farthestWithin_60 : decode cX5_farthestWithin 60 = .ok (.goto (-54), 3) := by decide +kernel
theorem dX5_farthestWithin_63 : decode cX5_farthestWithin 63 = .ok (.iload_n 3, 1) := by decide +kernel
theorem dX5_farthestWithin_64 : decode cX5_farthestWithin 64 = .ok (.ireturn, 1) := by decide +kernel
theorem dX5_mostHopeful_0 : decode cX5_mostHopeful 0 = .ok (.bipush (-5), 2) := by decide +kernel
theorem dX5_mostHopeful_2 : decode cX5_mostHopeful 2 = .ok (.istore_n 2, 1) := by decide +kernel
theorem dX5_mostHopeful_3 : decode cX5_mostHopeful 3 = .ok (.iconst 0, 1) := by decide +kernel
theorem dX5_mostHopeful_4 : decode cX5_mostHopeful 4 = .ok (.istore_n 3, 1) := by decide +kernel
theorem dX5_mostHopeful_5 : decode cX5_mostHopeful 5 = .ok (.iload_n 3, 1) := by decide +kernel
theorem dX5_mostHopeful_6 : decode cX5_mostHopeful 6 = .ok (.aload_n 0, 1) := by decide +kernel
theorem dX5_mostHopeful_7 : decode cX5_mostHopeful 7 = .ok (.getfield 40, 3) := by decide +kernel
theorem dX5_mostHopeful_10 : decode cX5_mostHopeful 10 = .ok (.if_icmp .ge 37, 3) := by decide +kernel
theorem dX5_mostHopeful_13 : decode cX5_mostHopeful 13 = .ok (.iload_n 3, 1) := by decide +kernel
theorem dX5_mostHopeful_14 : decode cX5_mostHopeful 14 = .ok (.iload_n 1, 1) := by decide +kernel
theorem dX5_mostHopeful_15 : decode cX5_mostHopeful 15 = .ok (.if_icmp .eq 26, 3) := by decide +kernel
theorem dX5_mostHopeful_18 : decode cX5_mostHopeful 18 = .ok (.iload_n 2, 1) := by decide +kernel
theorem dX5_mostHopeful_19 : decode cX5_mostHopeful 19 = .ok (.bipush (-5), 2) := by decide +kernel
theorem dX5_mostHopeful_21 : decode cX5_mostHopeful 21 = .ok (.if_icmp .eq 18, 3) := by decide +kernel
theorem dX5_mostHopeful_24 : decode cX5_mostHopeful 24 = .ok (.aload_n 0, 1) := by decide +kernel
theorem dX5_mostHopeful_25 : decode cX5_mostHopeful 25 = .ok (.getfield 21, 3) := by decide +kernel
theorem dX5_mostHopeful_28 : decode cX5_mostHopeful 28 = .ok (.iload_n 3, 1) := by decide +kernel
theorem dX5_mostHopeful_29 : decode cX5_mostHopeful 29 = .ok (.iaload, 1) := by decide +kernel
theorem dX5_mostHopeful_30 : decode cX5_mostHopeful 30 = .ok (.aload_n 0, 1) := by decide +kernel
theorem dX5_mostHopeful_31 : decode cX5_mostHopeful 31 = .ok (.getfield 21, 3) := by decide +kernel
theorem dX5_mostHopeful_34 : decode cX5_mostHopeful 34 = .ok (.iload_n 2, 1) := by decide +kernel
theorem dX5_mostHopeful_35 : decode cX5_mostHopeful 35 = .ok (.iaload, 1) := by decide +kernel
theorem dX5_mostHopeful_36 : decode cX5_mostHopeful 36 = .ok (.if_icmp .le 5, 3) := by decide +kernel
theorem dX5_mostHopeful_39 : decode cX5_mostHopeful 39 = .ok (.iload_n 3, 1) := by decide +kernel
theorem dX5_mostHopeful_40 : decode cX5_mostHopeful 40 = .ok (.istore_n 2, 1) := by decide +kernel
theorem dX5_mostHopeful_41 : decode cX5_mostHopeful 41 = .ok (.iinc 3 1, 3) := by decide +kernel
theorem dX5_mostHopeful_44 : decode cX5_mostHopeful 44 = .ok (.goto (-39), 3) := by decide +kernel
theorem dX5_mostHopeful_47 : decode cX5_mostHopeful 47 = .ok (.iload_n 2, 1) := by decide +kernel
theorem dX5_mostHopeful_48 : decode cX5_mostHopeful 48 = .ok (.ireturn, 1) := by decide +kernel
theorem dX5_move_0 : decode cX5_move 0 = .ok (.aload_n 0, 1) := by decide +kernel
theorem dX5_move_1 : decode cX5_move 1 = .ok (.invokevirtual 103, 3) := by decide +kernel
theorem dX5_move_4 : decode cX5_move 4 = .ok (.ifCond .eq 8, 3) := by decide +kernel
theorem dX5_move_7 : decode cX5_move 7 = .ok (.bipush (-5), 2) := by decide +kernel
theorem dX5_move_9 : decode cX5_move 9 = .ok (.goto 11, 3) := by decide +kernel
theorem dX5_move_12 : decode cX5_move 12 = .ok (.aload_n 0, 1) := by decide +kernel
theorem dX5_move_13 : decode cX5_move 13 = .ok (.aload_n 0, 1) := by decide +kernel
theorem dX5_move_14 : decode cX5_move 14 = .ok (.getfield 43, 3) := by decide +kernel
theorem dX5_move_17 : decode cX5_move 17 = .ok (.invokevirtual 107, 3) := by decide +kernel
theorem dX5_move_20 : decode cX5_move 20 = .ok (.istore_n 1, 1) := by decide +kernel
theorem dX5_move_21 : decode cX5_move 21 = .ok (.iload_n 1, 1) := by decide +kernel
theorem dX5_move_22 : decode cX5_move 22 = .ok (.bipush (-5), 2) := by decide +kernel
theorem dX5_move_24 : decode cX5_move 24 = .ok (.if_icmp .ne 6, 3) := by decide +kernel
theorem dX5_move_27 : decode cX5_move 27 = .ok (.bipush (-3), 2) := by decide +kernel
theorem dX5_move_29 : decode cX5_move 29 = .ok (.ireturn, 1) := by decide +kernel
theorem dX5_move_30 : decode cX5_move 30 = .ok (.aload_n 0, 1) := by decide +kernel
theorem dX5_move_31 : decode cX5_move 31 = .ok (.aload_n 0, 1) := by decide +kernel
theorem dX5_move_32 : decode cX5_move 32 = .ok (.getfield 43, 3) := by decide +kernel
theorem dX5_move_35 : decode cX5_move 35 = .ok (.iload_n 1, 1) := by decide +kernel
theorem dX5_move_36 : decode cX5_move 36 = .ok (.invokevirtual 110, 3) := by decide +kernel
theorem dX5_move_39 : decode cX5_move 39 = .ok (.istore_n 2, 1) := by decide +kernel
theorem dX5_move_40 : decode cX5_move 40 = .ok (.aload_n 0, 1) := by decide +kernel
theorem dX5_move_41 : decode cX5_move 41 = .ok (.dup, 1) := by decide +kernel
theorem dX5_move_42 : decode cX5_move 42 = .ok (.getfield 49, 3) := by decide +kernel
theorem dX5_move_45 : decode cX5_move 45 = .ok (.iconst 1, 1) := by decide +kernel
theorem dX5_move_46 : decode cX5_move 46 = .ok (.iadd, 1) := by decide +kernel
theorem dX5_move_47 : decode cX5_move 47 = .ok (.putfield 49, 3) := by decide +kernel
theorem dX5_move_50 : decode cX5_move 50 = .ok (.iload_n 2, 1) := by decide +kernel
theorem dX5_move_51 : decode cX5_move 51 = .ok (.ireturn, 1) := by decide +kernel
theorem dX5_carryOrTell_0 : decode cX5_carryOrTell 0 = .ok (.aload_n 0, 1) := by decide +kernel
theorem dX5_carryOrTell_1 : decode cX5_carryOrTell 1 = .ok (.iload_n 1, 1) := by decide +kernel
theorem dX5_carryOrTell_2 : decode cX5_carryOrTell 2 = .ok (.iload_n 2, 1) := by decide +kernel
theorem dX5_carryOrTell_3 : decode cX5_carryOrTell 3 = .ok (.invokevirtual 100, 3) := by decide +kernel
theorem dX5_carryOrTell_6 : decode cX5_carryOrTell 6 = .ok (.aload_n 0, 1) := by decide +kernel
theorem dX5_carryOrTell_7 : decode cX5_carryOrTell 7 = .ok (.iload_n 1, 1) := by decide +kernel
theorem dX5_carryOrTell_8 : decode cX5_carryOrTell 8 = .ok (.invokevirtual 88, 3) := by decide +kernel
theorem dX5_carryOrTell_11 : decode cX5_carryOrTell 11 = .ok (.if_icmp .gt 34, 3) := by decide +kernel
theorem dX5_carryOrTell_14 : decode cX5_carryOrTell 14 = .ok (.aload_n 0, 1) := by decide +kernel
theorem dX5_carryOrTell_15 : decode cX5_carryOrTell 15 = .ok (.iconst 0, 1) := by decide +kernel
theorem dX5_carryOrTell_16 : decode cX5_carryOrTell 16 = .ok (.sipush 999, 3) := by decide +kernel
theorem dX5_carryOrTell_19 : decode cX5_carryOrTell 19 = .ok (.aload_n 0, 1) := by decide +kernel
theorem dX5_carryOrTell_20 : decode cX5_carryOrTell 20 = .ok (.getfield 46, 3) := by decide +kernel
theorem dX5_carryOrTell_23 : decode cX5_carryOrTell 23 = .ok (.aload_n 0, 1) := by decide +kernel
theorem dX5_carryOrTell_24 : decode cX5_carryOrTell 24 = .ok (.iload_n 1, 1) := by decide +kernel
theorem dX5_carryOrTell_25 : decode cX5_carryOrTell 25 = .ok (.invokevirtual 113, 3) := by decide +kernel
theorem dX5_carryOrTell_28 : decode cX5_carryOrTell 28 = .ok (.iadd, 1) := by decide +kernel
theorem dX5_carryOrTell_29 : decode cX5_carryOrTell 29 = .ok (.invokestatic 115, 3) := by decide +kernel
theorem dX5_carryOrTell_32 : decode cX5_carryOrTell 32 = .ok (.invokestatic 74, 3) := by decide +kernel
theorem dX5_carryOrTell_35 : decode cX5_carryOrTell 35 = .ok (.putfield 46, 3) := by decide +kernel
theorem dX5_carryOrTell_38 : decode cX5_carryOrTell 38 = .ok (.aload_n 0, 1) := by decide +kernel
theorem dX5_carryOrTell_39 : decode cX5_carryOrTell 39 = .ok (.iload_n 2, 1) := by decide +kernel
theorem dX5_carryOrTell_40 : decode cX5_carryOrTell 40 = .ok (.putfield 43, 3) := by decide +kernel
theorem dX5_carryOrTell_43 : decode cX5_carryOrTell 43 = .ok (.iconst 0, 1) := by decide +kernel
theorem dX5_carryOrTell_44 : decode cX5_carryOrTell 44 = .ok (.ireturn, 1) := by decide +kernel
theorem dX5_carryOrTell_45 : decode cX5_carryOrTell 45 = .ok (.aload_n 0, 1) := by decide +kernel
theorem dX5_carryOrTell_46 : decode cX5_carryOrTell 46 = .ok (.getfield 21, 3) := by decide +kernel
theorem dX5_carryOrTell_49 : decode cX5_carryOrTell 49 = .ok (.iload_n 1, 1) := by decide +kernel
theorem dX5_carryOrTell_50 : decode cX5_carryOrTell 50 = .ok (.iaload, 1) := by decide +kernel
theorem dX5_carryOrTell_51 : decode cX5_carryOrTell 51 = .ok (.ifCond .le 44, 3) := by decide +kernel
theorem dX5_carryOrTell_54 : decode cX5_carryOrTell 54 = .ok (.aload_n 0, 1) := by decide +kernel
theorem dX5_carryOrTell_55 : decode cX5_carryOrTell 55 = .ok (.getfield 21, 3) := by decide +kernel
theorem dX5_carryOrTell_58 : decode cX5_carryOrTell 58 = .ok (.iload_n 1, 1) := by decide +kernel
theorem dX5_carryOrTell_59 : decode cX5_carryOrTell 59 = .ok (.dup2, 1) := by decide +kernel
theorem dX5_carryOrTell_60 : decode cX5_carryOrTell 60 = .ok (.iaload, 1) := by decide +kernel
theorem dX5_carryOrTell_61 : decode cX5_carryOrTell 61 = .ok (.iconst 1, 1) := by decide +kernel
theorem dX5_carryOrTell_62 : decode cX5_carryOrTell 62 = .ok (.isub, 1) := by decide +kernel
theorem dX5_carryOrTell_63 : decode cX5_carryOrTell 63 = .ok (.iastore, 1) := by decide +kernel
theorem dX5_carryOrTell_64 : decode cX5_carryOrTell 64 = .ok (.aload_n 0, 1) := by decide +kernel
theorem dX5_carryOrTell_65 : decode cX5_carryOrTell 65 = .ok (.getfield 24, 3) := by decide +kernel
theorem dX5_carryOrTell_68 : decode cX5_carryOrTell 68 = .ok (.iload_n 1, 1) := by decide +kernel
theorem dX5_carryOrTell_69 : decode cX5_carryOrTell 69 = .ok (.dup2, 1) := by decide +kernel
theorem dX5_carryOrTell_70 : decode cX5_carryOrTell 70 = .ok (.iaload, 1) := by decide +kernel
theorem dX5_carryOrTell_71 : decode cX5_carryOrTell 71 = .ok (.iconst 1, 1) := by decide +kernel
theorem dX5_carryOrTell_72 : decode cX5_carryOrTell 72 = .ok (.iadd, 1) := by decide +kernel
theorem dX5_carryOrTell_73 : decode cX5_carryOrTell 73 = .ok (.iastore, 1) := by decide +kernel
theorem dX5_carryOrTell_74 : decode cX5_carryOrTell 74 = .ok (.aload_n 0, 1) := by decide +kernel
theorem dX5_carryOrTell_75 : decode cX5_carryOrTell 75 = .ok (.sipush 999, 3) := by decide +kernel
theorem dX5_carryOrTell_78 : decode cX5_carryOrTell 78 = .ok (.aload_n 0, 1) := by decide +kernel
theorem dX5_carryOrTell_79 : decode cX5_carryOrTell 79 = .ok (.getfield 46, 3) := by decide +kernel
theorem dX5_carryOrTell_82 : decode cX5_carryOrTell 82 = .ok (.aload_n 0, 1) := by decide +kernel
theorem dX5_carryOrTell_83 : decode cX5_carryOrTell 83 = .ok (.invokevirtual 118, 3) := by decide +kernel
theorem dX5_carryOrTell_86 : decode cX5_carryOrTell 86 = .ok (.iadd, 1) := by decide +kernel
theorem dX5_carryOrTell_87 : decode cX5_carryOrTell 87 = .ok (.invokestatic 115, 3) := by decide +kernel
theorem dX5_carryOrTell_90 : decode cX5_carryOrTell 90 = .ok (.putfield 46, 3) := by decide +kernel
theorem dX5_carryOrTell_93 : decode cX5_carryOrTell 93 = .ok (.iconst 1, 1) := by decide +kernel
theorem dX5_carryOrTell_94 : decode cX5_carryOrTell 94 = .ok (.ireturn, 1) := by decide +kernel
theorem dX5_carryOrTell_95 : decode cX5_carryOrTell 95 = .ok (.aload_n 0, 1) := by decide +kernel
theorem dX5_carryOrTell_96 : decode cX5_carryOrTell 96 = .ok (.iload_n 1, 1) := by decide +kernel
theorem dX5_carryOrTell_97 : decode cX5_carryOrTell 97 = .ok (.putfield 30, 3) := by decide +kernel
theorem dX5_carryOrTell_100 : decode cX5_carryOrTell 100 = .ok (.iconst 2, 1) := by decide +kernel
theorem dX5_carryOrTell_101 : decode cX5_carryOrTell 101 = .ok (.ireturn, 1) := by decide +kernel
theorem dX5_go_0 : decode cX5_go 0 = .ok (.iconst 0, 1) := by decide +kernel
theorem dX5_go_1 : decode cX5_go 1 = .ok (.istore_n 2, 1) := by decide +kernel
theorem dX5_go_2 : decode cX5_go 2 = .ok (.iload_n 2, 1) := by decide +kernel
theorem dX5_go_3 : decode cX5_go 3 = .ok (.iload_n 1, 1) := by decide +kernel
theorem dX5_go_4 : decode cX5_go 4 = .ok (.if_icmp .ge 14, 3) := by decide +kernel
theorem dX5_go_7 : decode cX5_go 7 = .ok (.aload_n 0, 1) := by decide +kernel
theorem dX5_go_8 : decode cX5_go 8 = .ok (.invokevirtual 120, 3) := by decide +kernel
theorem dX5_go_11 : decode cX5_go 11 = .ok (.pop, 1) := by decide +kernel
theorem dX5_go_12 : decode cX5_go 12 = .ok (.iinc 2 1, 3) := by decide +kernel
theorem dX5_go_15 : decode cX5_go 15 = .ok (.goto (-13), 3) := by decide +kernel
theorem dX5_go_18 : decode cX5_go 18 = .ok (.return_, 1) := by decide +kernel
theorem dX5_outlast_0 : decode cX5_outlast 0 = .ok (.iconst 0, 1) := by decide +kernel
theorem dX5_outlast_1 : decode cX5_outlast 1 = .ok (.istore_n 1, 1) := by decide +kernel
theorem dX5_outlast_2 : decode cX5_outlast 2 = .ok (.iload_n 1, 1) := by decide +kernel
theorem dX5_outlast_3 : decode cX5_outlast 3 = .ok (.bipush 99, 2) := by decide +kernel
theorem dX5_outlast_5 : decode cX5_outlast 5 = .ok (.if_icmp .gt 23, 3) := by decide +kernel
theorem dX5_outlast_8 : decode cX5_outlast 8 = .ok (.aload_n 0, 1) := by decide +kernel
theorem dX5_outlast_9 : decode cX5_outlast 9 = .ok (.invokevirtual 103, 3) := by decide +kernel
theorem dX5_outlast_12 : decode cX5_outlast 12 = .ok (.ifCond .eq 5, 3) := by decide +kernel
theorem dX5_outlast_15 : decode cX5_outlast 15 = .ok (.iload_n 1, 1) := by decide +kernel
theorem dX5_outlast_16 : decode cX5_outlast 16 = .ok (.ireturn, 1) := by decide +kernel
theorem dX5_outlast_17 : decode cX5_outlast 17 = .ok (.aload_n 0, 1) := by decide +kernel
theorem dX5_outlast_18 : decode cX5_outlast 18 = .ok (.invokevirtual 120, 3) := by decide +kernel
theorem dX5_outlast_21 : decode cX5_outlast 21 = .ok (.pop, 1) := by decide +kernel
theorem dX5_outlast_22 : decode cX5_outlast 22 = .ok (.iinc 1 1, 3) := by decide +kernel
theorem dX5_outlast_25 : decode cX5_outlast 25 = .ok (.goto (-23), 3) := by decide +kernel
theorem dX5_outlast_28 : decode cX5_outlast 28 = .ok (.bipush 100, 2) := by decide +kernel
theorem dX5_outlast_30 : decode cX5_outlast 30 = .ok (.ireturn, 1) := by decide +kernel
theorem dX5_play_0 : decode cX5_play 0 = .ok (.iload_n 1, 1) := by decide +kernel
theorem dX5_play_1 : decode cX5_play 1 = .ok (.lookupswitch 55 #[(0, 27), (1, 35)], 27) := by decide +kernel
theorem dX5_play_28 : decode cX5_play 28 = .ok (.aload_n 0, 1) := by decide +kernel
theorem dX5_play_29 : decode cX5_play 29 = .ok (.invokevirtual 120, 3) := by decide +kernel
theorem dX5_play_32 : decode cX5_play 32 = .ok (.pop, 1) := by decide +kernel
theorem dX5_play_33 : decode cX5_play 33 = .ok (.goto 28, 3) := by decide +kernel
theorem dX5_play_36 : decode cX5_play 36 = .ok (.aload_n 0, 1) := by decide +kernel
theorem dX5_play_37 : decode cX5_play 37 = .ok (.sipush 999, 3) := by decide +kernel
theorem dX5_play_40 : decode cX5_play 40 = .ok (.aload_n 0, 1) := by decide +kernel
theorem dX5_play_41 : decode cX5_play 41 = .ok (.getfield 46, 3) := by decide +kernel
theorem dX5_play_44 : decode cX5_play 44 = .ok (.bipush 10, 2) := by decide +kernel
theorem dX5_play_46 : decode cX5_play 46 = .ok (.iadd, 1) := by decide +kernel
theorem dX5_play_47 : decode cX5_play 47 = .ok (.invokestatic 115, 3) := by decide +kernel
theorem dX5_play_50 : decode cX5_play 50 = .ok (.putfield 46, 3) := by decide +kernel
theorem dX5_play_53 : decode cX5_play 53 = .ok (.goto 8, 3) := by decide +kernel
theorem dX5_play_56 : decode cX5_play 56 = .ok (.aload_n 0, 1) := by decide +kernel
theorem dX5_play_57 : decode cX5_play 57 = .ok (.iload_n 2, 1) := by decide +kernel
theorem dX5_play_58 : decode cX5_play 58 = .ok (.invokevirtual 123, 3) := by decide +kernel
theorem dX5_play_61 : decode cX5_play 61 = .ok (.return_, 1) := by decide +kernel
theorem dX6_init_0 : decode cX6_init 0 = .ok (.aload_n 0, 1) := by decide +kernel
theorem dX6_init_1 : decode cX6_init 1 = .ok (.invokespecial 3, 3) := by decide +kernel
theorem dX6_init_4 : decode cX6_init 4 = .ok (.aload_n 0, 1) := by decide +kernel
theorem dX6_init_5 : decode cX6_init 5 = .ok (.bipush 6, 2) := by decide +kernel
theorem dX6_init_7 : decode cX6_init 7 = .ok (.newarray .int, 2) := by decide +kernel
theorem dX6_init_9 : decode cX6_init 9 = .ok (.putfield 11, 3) := by decide +kernel
theorem dX6_init_12 : decode cX6_init 12 = .ok (.aload_n 0, 1) := by decide +kernel
theorem dX6_init_13 : decode cX6_init 13 = .ok (.bipush 6, 2) := by decide +kernel
theorem dX6_init_15 : decode cX6_init 15 = .ok (.newarray .int, 2) := by decide +kernel
theorem dX6_init_17 : decode cX6_init 17 = .ok (.putfield 15, 3) := by decide +kernel
theorem dX6_init_20 : decode cX6_init 20 = .ok (.aload_n 0, 1) := by decide +kernel
theorem dX6_init_21 : decode cX6_init 21 = .ok (.bipush 6, 2) := by decide +kernel
theorem dX6_init_23 : decode cX6_init 23 = .ok (.bipush 60, 2) := by decide +kernel
theorem dX6_init_25 : decode cX6_init 25 = .ok (.multianewarray 18 2, 4) := by decide +kernel
theorem dX6_init_29 : decode cX6_init 29 = .ok (.putfield 20, 3) := by decide +kernel
theorem dX6_init_32 : decode cX6_init 32 = .ok (.aload_n 0, 1) := by decide +kernel
theorem dX6_init_33 : decode cX6_init 33 = .ok (.getfield 11, 3) := by decide +kernel
theorem dX6_init_36 : decode cX6_init 36 = .ok (.iconst (-1), 1) := by decide +kernel
theorem dX6_init_37 : decode cX6_init 37 = .ok (.invokestatic 23, 3) := by decide +kernel
theorem dX6_init_40 : decode cX6_init 40 = .ok (.return_, 1) := by decide +kernel
theorem dX6_has_0 : decode cX6_has 0 = .ok (.iload_n 1, 1) := by decide +kernel
theorem dX6_has_1 : decode cX6_has 1 = .ok (.iconst 0, 1) := by decide +kernel
theorem dX6_has_2 : decode cX6_has 2 = .ok (.iconst 5, 1) := by decide +kernel
theorem dX6_has_3 : decode cX6_has 3 = .ok (.invokestatic 29, 3) := by decide +kernel
theorem dX6_has_6 : decode cX6_has 6 = .ok (.ireturn, 1) := by decide +kernel
theorem dX6_holds_0 : decode cX6_holds 0 = .ok (.aload_n 0, 1) := by decide +kernel
theorem dX6_holds_1 : decode cX6_holds 1 = .ok (.getfield 11, 3) := by decide +kernel
theorem dX6_holds_4 : decode cX6_holds 4 = .ok (.iload_n 1, 1) := by decide +kernel
theorem dX6_holds_5 : decode cX6_holds 5 = .ok (.iaload, 1) := by decide +kernel
theorem dX6_holds_6 : decode cX6_holds 6 = .ok (.iconst (-1), 1) := by decide +kernel
theorem dX6_holds_7 : decode cX6_holds 7 = .ok (.if_icmp .eq 7, 3) := by decide +kernel
theorem dX6_holds_10 : decode cX6_holds 10 = .ok (.iconst 1, 1) := by decide +kernel
theorem dX6_holds_11 : decode cX6_holds 11 = .ok (.goto 4, 3) := by decide +kernel
theorem dX6_holds_14 : decode cX6_holds 14 = .ok (.iconst 0, 1) := by decide +kernel
theorem dX6_holds_15 : decode cX6_holds 15 = .ok (.ireturn, 1) := by decide +kernel
theorem dX6_hasPlace_0 : decode cX6_hasPlace 0 = .ok (.iload_n 2, 1) := by decide +kernel
theorem dX6_hasPlace_1 : decode cX6_hasPlace 1 = .ok (.ifCond .lt 17, 3) := by decide +kernel
theorem dX6_hasPlace_4 : decode cX6_hasPlace 4 = .ok (.iload_n 2, 1) := by decide +kernel
theorem dX6_hasPlace_5 : decode cX6_hasPlace 5 = .ok (.aload_n 0, 1) := by decide +kernel
theorem dX6_hasPlace_6 : decode cX6_hasPlace 6 = .ok (.getfield 15, 3) := by decide +kernel
theorem dX6_hasPlace_9 : decode cX6_hasPlace 9 = .ok (.iload_n 1, 1) := by decide +kernel
theorem dX6_hasPlace_10 : decode cX6_hasPlace 10 = .ok (.iaload, 1) := by decide +kernel
theorem dX6_hasPlace_11 : decode cX6_hasPlace 11 = .ok (.if_icmp .ge 7, 3) := by decide +kernel
theorem dX6_hasPlace_14 : decode cX6_hasPlace 14 = .ok (.iconst 1, 1) := by decide +kernel
theorem dX6_hasPlace_15 : decode cX6_hasPlace 15 = .ok (.goto 4, 3) := by decide +kernel
theorem dX6_hasPlace_18 : decode cX6_hasPlace 18 = .ok (.iconst 0, 1) := by decide +kernel
theorem dX6_hasPlace_19 : decode cX6_hasPlace 19 = .ok (.ireturn, 1) := by decide +kernel
theorem dX6_make_0 : decode cX6_make 0 = .ok (.aload_n 0, 1) := by decide +kernel
theorem dX6_make_1 : decode cX6_make 1 = .ok (.iload_n 1, 1) := by decide +kernel
theorem dX6_make_2 : decode cX6_make 2 = .ok (.invokevirtual 33, 3) := by decide +kernel
theorem dX6_make_5 : decode cX6_make 5 = .ok (.ifCond .ne 5, 3) := by decide +kernel
theorem dX6_make_8 : decode cX6_make 8 = .ok (.iconst (-1), 1) := by decide +kernel
theorem dX6_make_9 : decode cX6_make 9 = .ok (.ireturn, 1) := by decide +kernel
theorem dX6_make_10 : decode cX6_make 10 = .ok (.iload_n 2, 1) := by decide +kernel
theorem dX6_make_11 : decode cX6_make 11 = .ok (.iconst (-1), 1) := by decide +kernel
theorem dX6_make_12 : decode cX6_make 12 = .ok (.iconst 4, 1) := by decide +kernel
theorem dX6_make_13 : decode cX6_make 13 = .ok (.invokestatic 29, 3) := by decide +kernel
theorem dX6_make_16 : decode cX6_make 16 = .ok (.ifCond .ne 6, 3) := by decide +kernel
theorem dX6_make_19 : decode cX6_make 19 = .ok (.bipush (-2), 2) := by decide +kernel
theorem dX6_make_21 : decode cX6_make 21 = .ok (.ireturn, 1) := by decide +kernel
theorem dX6_make_22 : decode cX6_make 22 = .ok (.iload_n 2, 1) := by decide +kernel
theorem dX6_make_23 : decode cX6_make 23 = .ok (.iconst (-1), 1) := by decide +kernel
theorem dX6_make_24 : decode cX6_make 24 = .ok (.if_icmp .ne 7, 3) := by decide +kernel
theorem dX6_make_27 : decode cX6_make 27 = .ok (.iconst 0, 1) := by decide +kernel
theorem dX6_make_28 : decode cX6_make 28 = .ok (.goto 4, 3) := by decide +kernel
theorem dX6_make_31 : decode cX6_make 31 = .ok (.iload_n 3, 1) := by decide +kernel
theorem dX6_make_32 : decode cX6_make 32 = .ok (.istore 4, 2) := by decide +kernel
theorem dX6_make_34 : decode cX6_make 34 = .ok (.iload 4, 2) := by decide +kernel
theorem dX6_make_36 : decode cX6_make 36 = .ok (.bipush 60, 2) := by decide +kernel
theorem dX6_make_38 : decode cX6_make 38 = .ok (.if_icmp .le 6, 3) := by decide +kernel
theorem dX6_make_41 : decode cX6_make 41 = .ok (.bipush (-2), 2) := by decide +kernel
theorem dX6_make_43 : decode cX6_make 43 = .ok (.ireturn, 1) := by decide +kernel
theorem dX6_make_44 : decode cX6_make 44 = .ok (.iload 4, 2) := by decide +kernel
theorem dX6_make_46 : decode cX6_make 46 = .ok (.ifCond .ge 6, 3) := by decide +kernel
theorem dX6_make_49 : decode cX6_make 49 = .ok (.bipush (-14), 2) := by decide +kernel
theorem dX6_make_51 : decode cX6_make 51 = .ok (.ireturn, 1) := by decide +kernel
theorem dX6_make_52 : decode cX6_make 52 = .ok (.aload_n 0, 1) := by decide +kernel
theorem dX6_make_53 : decode cX6_make 53 = .ok (.getfield 11, 3) := by decide +kernel
theorem dX6_make_56 : decode cX6_make 56 = .ok (.iload_n 1, 1) := by decide +kernel
theorem dX6_make_57 : decode cX6_make 57 = .ok (.iload_n 2, 1) := by decide +kernel
theorem dX6_make_58 : decode cX6_make 58 = .ok (.iastore, 1) := by decide +kernel
theorem dX6_make_59 : decode cX6_make 59 = .ok (.aload_n 0, 1) := by decide +kernel
theorem dX6_make_60 : decode cX6_make 60 = .ok (.getfield 15, 3) := by decide +kernel
theorem dX6_make_63 : decode cX6_make 63 = .ok (.iload_n 1, 1) := by decide +kernel
theorem dX6_make_64 : decode cX6_make 64 = .ok (.iload 4, 2) := by decide +kernel
theorem dX6_make_66 : decode cX6_make 66 = .ok (.iastore, 1) := by decide +kernel
theorem dX6_make_67 : decode cX6_make 67 = .ok (.aload_n 0, 1) := by decide +kernel
theorem dX6_make_68 : decode cX6_make 68 = .ok (.getfield 20, 3) := by decide +kernel
theorem dX6_make_71 : decode cX6_make 71 = .ok (.iload_n 1, 1) := by decide +kernel
theorem dX6_make_72 : decode cX6_make 72 = .ok (.aaload, 1) := by decide +kernel
theorem dX6_make_73 : decode cX6_make 73 = .ok (.lconst 0, 1) := by decide +kernel
theorem dX6_make_74 : decode cX6_make 74 = .ok (.invokestatic 37, 3) := by decide +kernel
theorem dX6_make_77 : decode cX6_make 77 = .ok (.iconst 1, 1) := by decide +kernel
theorem dX6_make_78 : decode cX6_make 78 = .ok (.ireturn, 1) := by decide +kernel
theorem dX6_put_0 : decode cX6_put 0 = .ok (.aload_n 0, 1) := by decide +kernel
theorem dX6_put_1 : decode cX6_put 1 = .ok (.iload_n 1, 1) := by decide +kernel
theorem dX6_put_2 : decode cX6_put 2 = .ok (.invokevirtual 33, 3) := by decide +kernel
theorem dX6_put_5 : decode cX6_put 5 = .ok (.ifCond .ne 5, 3) := by decide +kernel
theorem dX6_put_8 : decode cX6_put 8 = .ok (.iconst (-1), 1) := by decide +kernel
theorem dX6_put_9 : decode cX6_put 9 = .ok (.ireturn, 1) := by decide +kernel
theorem dX6_put_10 : decode cX6_put 10 = .ok (.aload_n 0, 1) := by decide +kernel
theorem dX6_put_11 : decode cX6_put 11 = .ok (.iload_n 1, 1) := by decide +kernel
theorem dX6_put_12 : decode cX6_put 12 = .ok (.invokevirtual 40, 3) := by decide +kernel
theorem dX6_put_15 : decode cX6_put 15 = .ok (.ifCond .ne 6, 3) := by decide +kernel
theorem dX6_put_18 : decode cX6_put 18 = .ok (.bipush (-11), 2) := by decide +kernel
theorem dX6_put_20 : decode cX6_put 20 = .ok (.ireturn, 1) := by decide +kernel
theorem dX6_put_21 : decode cX6_put 21 = .ok (.aload_n 0, 1) := by decide +kernel
theorem dX6_put_22 : decode cX6_put 22 = .ok (.iload_n 1, 1) := by decide +kernel
theorem dX6_put_23 : decode cX6_put 23 = .ok (.iload_n 2, 1) := by decide +kernel
theorem dX6_put_24 : decode cX6_put 24 = .ok (.invokevirtual 43, 3) := by decide +kernel
theorem dX6_put_27 : decode cX6_put 27 = .ok (.ifCond .ne 6, 3) := by decide +kernel
theorem dX6_put_30 : decode cX6_put 30 = .ok (.bipush (-13), 2) := by decide +kernel
theorem dX6_put_32 : decode cX6_put 32 = .ok (.ireturn, 1) := by decide +kernel
theorem dX6_put_33 : decode cX6_put 33 = .ok (.aload_n 0, 1) := by decide +kernel
theorem dX6_put_34 : decode cX6_put 34 = .ok (.getfield 20, 3) := by decide +kernel
theorem dX6_put_37 : decode cX6_put 37 = .ok (.iload_n 1, 1) := by decide +kernel
theorem dX6_put_38 : decode cX6_put 38 = .ok (.aaload, 1) := by decide +kernel
theorem dX6_put_39 : decode cX6_put 39 = .ok (.iload_n 2, 1) := by decide +kernel
theorem dX6_put_40 : decode cX6_put 40 = .ok (.aload_n 0, 1) := by decide +kernel
theorem dX6_put_41 : decode cX6_put 41 = .ok (.getfield 11, 3) := by decide +kernel
theorem dX6_put_44 : decode cX6_put 44 = .ok (.iload_n 1, 1) := by decide +kernel
theorem dX6_put_45 : decode cX6_put 45 = .ok (.iaload, 1) := by decide +kernel
theorem dX6_put_46 : decode cX6_put 46 = .ok (.lload_n 3, 1) := by decide +kernel
theorem dX6_put_47 : decode cX6_put 47 = .ok (.invokestatic 47, 3) := by decide +kernel
theorem dX6_put_50 : decode cX6_put 50 = .ok (.lastore, 1) := by decide +kernel
theorem dX6_put_51 : decode cX6_put 51 = .ok (.iconst 1, 1) := by decide +kernel
theorem dX6_put_52 : decode cX6_put 52 = .ok (.ireturn, 1) := by decide +kernel
theorem dX6_cut_0 : decode cX6_cut 0 = .ok (.iload_n 0, 1) := by decide +kernel
theorem dX6_cut_1 : decode cX6_cut 1 = .ok (.tableswitch 47 0 3 #[31, 36, 41, 45], 31) := by decide +kernel
theorem dX6_cut_32 : decode cX6_cut 32 = .ok (.lload_n 1, 1) := by decide +kernel
theorem dX6_cut_33 : decode cX6_cut 33 = .ok (.l2i, 1) := by decide +kernel
theorem dX6_cut_34 : decode cX6_cut 34 = .ok (.i2b, 1) := by decide +kernel
theorem dX6_cut_35 : decode cX6_cut 35 = .ok (.i2l, 1) := by decide +kernel
theorem dX6_cut_36 : decode cX6_cut 36 = .ok (.lreturn, 1) := by decide +kernel
theorem dX6_cut_37 : decode cX6_cut 37 = .ok (.lload_n 1, 1) := by decide +kernel
theorem dX6_cut_38 : decode cX6_cut 38 = .ok (.l2i, 1) := by decide +kernel
theorem dX6_cut_39 : decode cX6_cut 39 = .ok (.i2s, 1) := by decide +kernel
theorem dX6_cut_40 : decode cX6_cut 40 = .ok (.i2l, 1) := by decide +kernel
theorem dX6_cut_41 : decode cX6_cut 41 = .ok (.lreturn, 1) := by decide +kernel
theorem dX6_cut_42 : decode cX6_cut 42 = .ok (.lload_n 1, 1) := by decide +kernel
theorem dX6_cut_43 : decode cX6_cut 43 = .ok (.l2i, 1) := by decide +kernel
theorem dX6_cut_44 : decode cX6_cut 44 = .ok (.i2l, 1) := by decide +kernel
theorem dX6_cut_45 : decode cX6_cut 45 = .ok (.lreturn, 1) := by decide +kernel
theorem dX6_cut_46 : decode cX6_cut 46 = .ok (.lload_n 1, 1) := by decide +kernel
theorem dX6_cut_47 : decode cX6_cut 47 = .ok (.lreturn, 1) := by decide +kernel
theorem dX6_cut_48 : decode cX6_cut 48 = .ok (.lload_n 1, 1) := by decide +kernel
theorem dX6_cut_49 : decode cX6_cut 49 = .ok (.lconst 0, 1) := by decide +kernel
theorem dX6_cut_50 : decode cX6_cut 50 = .ok (.lcmp, 1) := by decide +kernel
theorem dX6_cut_51 : decode cX6_cut 51 = .ok (.ifCond .eq 7, 3) := by decide +kernel
theorem dX6_cut_54 : decode cX6_cut 54 = .ok (.lconst 1, 1) := by decide +kernel
theorem dX6_cut_55 : decode cX6_cut 55 = .ok (.goto 4, 3) := by decide +kernel
theorem dX6_cut_58 : decode cX6_cut 58 = .ok (.lconst 0, 1) := by decide +kernel
theorem dX6_cut_59 : decode cX6_cut 59 = .ok (.lreturn, 1) := by decide +kernel
theorem dX6_bring_0 : decode cX6_bring 0 = .ok (.aload_n 0, 1) := by decide +kernel
theorem dX6_bring_1 : decode cX6_bring 1 = .ok (.iload_n 1, 1) := by decide +kernel
theorem dX6_bring_2 : decode cX6_bring 2 = .ok (.invokevirtual 33, 3) := by decide +kernel
theorem dX6_bring_5 : decode cX6_bring 5 = .ok (.ifCond .eq 11, 3) := by decide +kernel
theorem dX6_bring_8 : decode cX6_bring 8 = .ok (.aload_n 0, 1) := by decide +kernel
theorem dX6_bring_9 : decode cX6_bring 9 = .ok (.iload_n 3, 1) := by decide +kernel
theorem dX6_bring_10 : decode cX6_bring 10 = .ok (.invokevirtual 33, 3) := by decide +kernel
theorem dX6_bring_13 : decode cX6_bring 13 = .ok (.ifCond .ne 5, 3) := by decide +kernel
theorem dX6_bring_16 : decode cX6_bring 16 = .ok (.iconst (-1), 1) := by decide +kernel
theorem dX6_bring_17 : decode cX6_bring 17 = .ok (.ireturn, 1) := by decide +kernel
theorem dX6_bring_18 : decode cX6_bring 18 = .ok (.aload_n 0, 1) := by decide +kernel
theorem dX6_bring_19 : decode cX6_bring 19 = .ok (.iload_n 1, 1) := by decide +kernel
theorem dX6_bring_20 : decode cX6_bring 20 = .ok (.invokevirtual 40, 3) := by decide +kernel
theorem dX6_bring_23 : decode cX6_bring 23 = .ok (.ifCond .eq 11, 3) := by decide +kernel
theorem dX6_bring_26 : decode cX6_bring 26 = .ok (.aload_n 0, 1) := by decide +kernel
theorem dX6_bring_27 : decode cX6_bring 27 = .ok (.iload_n 3, 1) := by decide +kernel
theorem dX6_bring_28 : decode cX6_bring 28 = .ok (.invokevirtual 40, 3) := by decide +kernel
theorem dX6_bring_31 : decode cX6_bring 31 = .ok (.ifCond .ne 6, 3) := by decide +kernel
theorem dX6_bring_34 : decode cX6_bring 34 = .ok (.bipush (-11), 2) := by decide +kernel
theorem dX6_bring_36 : decode cX6_bring 36 = .ok (.ireturn, 1) := by decide +kernel
theorem dX6_bring_37 : decode cX6_bring 37 = .ok (.aload_n 0, 1) := by decide +kernel
theorem dX6_bring_38 : decode cX6_bring 38 = .ok (.getfield 11, 3) := by decide +kernel
theorem dX6_bring_41 : decode cX6_bring 41 = .ok (.iload_n 1, 1) := by decide +kernel
theorem dX6_bring_42 : decode cX6_bring 42 = .ok (.iaload, 1) := by decide +kernel
theorem dX6_bring_43 : decode cX6_bring 43 = .ok (.aload_n 0, 1) := by decide +kernel
theorem dX6_bring_44 : decode cX6_bring 44 = .ok (.getfield 11, 3) := by decide +kernel
theorem dX6_bring_47 : decode cX6_bring 47 = .ok (.iload_n 3, 1) := by decide +kernel
theorem dX6_bring_48 : decode cX6_bring 48 = .ok (.iaload, 1) := by decide +kernel
theorem dX6_bring_49 : decode cX6_bring 49 = .ok (.if_icmp .eq 6, 3) := by decide +kernel
theorem dX6_bring_52 : decode cX6_bring 52 = .ok (.bipush (-12), 2) := by decide +kernel
theorem dX6_bring_54 : decode cX6_bring 54 = .ok (.ireturn, 1) := by decide +kernel
theorem dX6_bring_55 : decode cX6_bring 55 = .ok (.iload 5, 2) := by decide +kernel
theorem dX6_bring_57 : decode cX6_bring 57 = .ok (.ifCond .lt 26, 3) := by decide +kernel
theorem dX6_bring_60 : decode cX6_bring 60 = .ok (.aload_n 0, 1) := by decide +kernel
theorem dX6_bring_61 : decode cX6_bring 61 = .ok (.iload_n 1, 1) := by decide +kernel
theorem dX6_bring_62 : decode cX6_bring 62 = .ok (.iload_n 2, 1) := by decide +kernel
theorem dX6_bring_63 : decode cX6_bring 63 = .ok (.iload 5, 2) := by decide +kernel
theorem dX6_bring_65 : decode cX6_bring 65 = .ok (.invokevirtual 51, 3) := by decide +kernel
theorem dX6_bring_68 : decode cX6_bring 68 = .ok (.ifCond .eq 15, 3) := by decide +kernel
theorem dX6_bring_71 : decode cX6_bring 71 = .ok (.aload_n 0, 1) := by decide +kernel
theorem dX6_bring_72 : decode cX6_bring 72 = .ok (.iload_n 3, 1) := by decide +kernel
theorem dX6_bring_73 : decode cX6_bring 73 = .ok (.iload 4, 2) := by decide +kernel
theorem dX6_bring_75 : decode cX6_bring 75 = .ok (.iload 5, 2) := by decide +kernel
theorem dX6_bring_77 : decode cX6_bring 77 = .ok (.invokevirtual 51, 3) := by decide +kernel
theorem dX6_bring_80 : decode cX6_bring 80 = .ok (.ifCond .ne 6, 3) := by decide +kernel
theorem dX6_bring_83 : decode cX6_bring 83 = .ok (.bipush (-13), 2) := by decide +kernel
theorem dX6_bring_85 : decode cX6_bring 85 = .ok (.ireturn, 1) := by decide +kernel
theorem dX6_bring_86 : decode cX6_bring 86 = .ok (.aload_n 0, 1) := by decide +kernel
theorem dX6_bring_87 : decode cX6_bring 87 = .ok (.getfield 20, 3) := by decide +kernel
theorem dX6_bring_90 : decode cX6_bring 90 = .ok (.iload_n 1, 1) := by decide +kernel
theorem dX6_bring_91 : decode cX6_bring 91 = .ok (.aaload, 1) := by decide +kernel
theorem dX6_bring_92 : decode cX6_bring 92 = .ok (.iload_n 2, 1) := by decide +kernel
theorem dX6_bring_93 : decode cX6_bring 93 = .ok (.aload_n 0, 1) := by decide +kernel
theorem dX6_bring_94 : decode cX6_bring 94 = .ok (.getfield 20, 3) := by decide +kernel
theorem dX6_bring_97 : decode cX6_bring 97 = .ok (.iload_n 3, 1) := by decide +kernel
theorem dX6_bring_98 : decode cX6_bring 98 = .ok (.aaload, 1) := by decide +kernel
theorem dX6_bring_99 : decode cX6_bring 99 = .ok (.iload 4, 2) := by decide +kernel
theorem dX6_bring_101 : decode cX6_bring 101 = .ok (.iload 5, 2) := by decide +kernel
theorem dX6_bring_103 : decode cX6_bring 103 = .ok (.invokestatic 54, 3) := by decide +kernel
theorem dX6_bring_106 : decode cX6_bring 106 = .ok (.iload 5, 2) := by decide +kernel
theorem dX6_bring_108 : decode cX6_bring 108 = .ok (.ireturn, 1) := by decide +kernel
theorem dX6_hasRun_0 : decode cX6_hasRun 0 = .ok (.iload_n 2, 1) := by decide +kernel
theorem dX6_hasRun_1 : decode cX6_hasRun 1 = .ok (.ifCond .lt 19, 3) := by decide +kernel
theorem dX6_hasRun_4 : decode cX6_hasRun 4 = .ok (.iload_n 2, 1) := by decide +kernel
theorem dX6_hasRun_5 : decode cX6_hasRun 5 = .ok (.aload_n 0, 1) := by decide +kernel
theorem dX6_hasRun_6 : decode cX6_hasRun 6 = .ok (.getfield 15, 3) := by decide +kernel
theorem dX6_hasRun_9 : decode cX6_hasRun 9 = .ok (.iload_n 1, 1) := by decide +kernel
theorem dX6_hasRun_10 : decode cX6_hasRun 10 = .ok (.iaload, 1) := by decide +kernel
theorem dX6_hasRun_11 : decode cX6_hasRun 11 = .ok (.iload_n 3, 1) := by decide +kernel
theorem dX6_hasRun_12 : decode cX6_hasRun 12 = .ok (.isub, 1) := by decide +kernel
theorem dX6_hasRun_13 : decode cX6_hasRun 13 = .ok (.if_icmp .gt 7, 3) := by decide +kernel
theorem dX6_hasRun_16 : decode cX6_hasRun 16 = .ok (.iconst 1, 1) := by decide +kernel
theorem dX6_hasRun_17 : decode cX6_hasRun 17 = .ok (.goto 4, 3) := by decide +kernel
theorem dX6_hasRun_20 : decode cX6_hasRun 20 = .ok (.iconst 0, 1) := by decide +kernel
theorem dX6_hasRun_21 : decode cX6_hasRun 21 = .ok (.ireturn, 1) := by decide +kernel
theorem dX7_init_0 : decode cX7_init 0 = .ok (.aload_n 0, 1) := by decide +kernel
theorem dX7_init_1 : decode cX7_init 1 = .ok (.invokespecial 3, 3) := by decide +kernel
theorem dX7_init_4 : decode cX7_init 4 = .ok (.aload_n 0, 1) := by decide +kernel
theorem dX7_init_5 : decode cX7_init 5 = .ok (.new 9, 3) := by decide +kernel
theorem dX7_init_8 : decode cX7_init 8 = .ok (.dup, 1) := by decide +kernel
theorem dX7_init_9 : decode cX7_init 9 = .ok (.invokespecial 11, 3) := by decide +kernel
theorem dX7_init_12 : decode cX7_init 12 = .ok (.putfield 12, 3) := by decide +kernel
theorem dX7_init_15 : decode cX7_init 15 = .ok (.aload_n 0, 1) := by decide +kernel
theorem dX7_init_16 : decode cX7_init 16 = .ok (.new 9, 3) := by decide +kernel
theorem dX7_init_19 : decode cX7_init 19 = .ok (.dup, 1) := by decide +kernel
theorem dX7_init_20 : decode cX7_init 20 = .ok (.invokespecial 11, 3) := by decide +kernel
theorem dX7_init_23 : decode cX7_init 23 = .ok (.putfield 18, 3) := by decide +kernel
theorem dX7_init_26 : decode cX7_init 26 = .ok (.aload_n 0, 1) := by decide +kernel
theorem dX7_init_27 : decode cX7_init 27 = .ok (.aload_n 0, 1) := by decide +kernel
theorem dX7_init_28 : decode cX7_init 28 = .ok (.getfield 12, 3) := by decide +kernel
theorem dX7_init_31 : decode cX7_init 31 = .ok (.getfield 21, 3) := by decide +kernel
theorem dX7_init_34 : decode cX7_init 34 = .ok (.putfield 25, 3) := by decide +kernel
theorem dX7_init_37 : decode cX7_init 37 = .ok (.aload_n 0, 1) := by decide +kernel
theorem dX7_init_38 : decode cX7_init 38 = .ok (.new 26, 3) := by decide +kernel
theorem dX7_init_41 : decode cX7_init 41 = .ok (.dup, 1) := by decide +kernel
theorem dX7_init_42 : decode cX7_init 42 = .ok (.invokespecial 28, 3) := by decide +kernel
theorem dX7_init_45 : decode cX7_init 45 = .ok (.putfield 29, 3) := by decide +kernel
theorem dX7_init_48 : decode cX7_init 48 = .ok (.aload_n 0, 1) := by decide +kernel
theorem dX7_init_49 : decode cX7_init 49 = .ok (.new 32, 3) := by decide +kernel
theorem dX7_init_52 : decode cX7_init 52 = .ok (.dup, 1) := by decide +kernel
theorem dX7_init_53 : decode cX7_init 53 = .ok (.invokespecial 34, 3) := by decide +kernel
theorem dX7_init_56 : decode cX7_init 56 = .ok (.putfield 35, 3) := by decide +kernel
theorem dX7_init_59 : decode cX7_init 59 = .ok (.aload_n 0, 1) := by decide +kernel
theorem dX7_init_60 : decode cX7_init 60 = .ok (.new 39, 3) := by decide +kernel
theorem dX7_init_63 : decode cX7_init 63 = .ok (.dup, 1) := by decide +kernel
theorem dX7_init_64 : decode cX7_init 64 = .ok (.invokespecial 41, 3) := by decide +kernel
theorem dX7_init_67 : decode cX7_init 67 = .ok (.putfield 42, 3) := by decide +kernel
theorem dX7_init_70 : decode cX7_init 70 = .ok (.aload_n 0, 1) := by decide +kernel
theorem dX7_init_71 : decode cX7_init 71 = .ok (.new 46, 3) := by decide +kernel
theorem dX7_init_74 : decode cX7_init 74 = .ok (.dup, 1) := by decide +kernel
theorem dX7_init_75 : decode cX7_init 75 = .ok (.invokespecial 48, 3) := by decide +kernel
theorem dX7_init_78 : decode cX7_init 78 = .ok (.putfield 49, 3) := by decide +kernel
theorem dX7_init_81 : decode cX7_init 81 = .ok (.return_, 1) := by decide +kernel
theorem dX7_person_0 : decode cX7_person 0 = .ok (.iload_n 1, 1) := by decide +kernel
theorem dX7_person_1 : decode cX7_person 1 = .ok (.iconst 0, 1) := by decide +kernel
theorem dX7_person_2 : decode cX7_person 2 = .ok (.bipush 6, 2) := by decide +kernel
theorem dX7_person_4 : decode cX7_person 4 = .ok (.invokestatic 53, 3) := by decide +kernel
theorem dX7_person_7 : decode cX7_person 7 = .ok (.ifCond .ne 5, 3) := by decide +kernel
theorem dX7_person_10 : decode cX7_person 10 = .ok (.iconst (-1), 1) := by decide +kernel
theorem dX7_person_11 : decode cX7_person 11 = .ok (.ireturn, 1) := by decide +kernel
theorem dX7_person_12 : decode cX7_person 12 = .ok (.iload_n 2, 1) := by decide +kernel
theorem dX7_person_13 : decode cX7_person 13 = .ok (.invokestatic 57, 3) := by decide +kernel
theorem dX7_person_16 : decode cX7_person 16 = .ok (.ifCond .eq 18, 3) := by decide +kernel
theorem dX7_person_19 : decode cX7_person 19 = .ok (.iload_n 3, 1) := by decide +kernel
theorem dX7_person_20 : decode cX7_person 20 = .ok (.invokestatic 61, 3) := by decide +kernel
theorem dX7_person_23 : decode cX7_person 23 = .ok (.ifCond .eq 11, 3) := by decide +kernel
theorem dX7_person_26 : decode cX7_person 26 = .ok (.iload 4, 2) := by decide +kernel
theorem dX7_person_28 : decode cX7_person 28 = .ok (.invokestatic 57, 3) := by decide +kernel
theorem dX7_person_31 : decode cX7_person 31 = .ok (.ifCond .ne 6, 3) := by decide +kernel
theorem dX7_person_34 : decode cX7_person 34 = .ok (.bipush (-2), 2) := by decide +kernel
theorem dX7_person_36 : decode cX7_person 36 = .ok (.ireturn, 1) := by decide +kernel
theorem dX7_person_37 : decode cX7_person 37 = .ok (.aload_n 0, 1) := by decide +kernel
theorem dX7_person_38 : decode cX7_person 38 = .ok (.getfield 25, 3) := by decide +kernel
theorem dX7_person_41 : decode cX7_person 41 = .ok (.iload_n 1, 1) := by decide +kernel
theorem dX7_person_42 : decode cX7_person 42 = .ok (.iload_n 2, 1) := by decide +kernel
theorem dX7_person_43 : decode cX7_person 43 = .ok (.iload_n 3, 1) := by decide +kernel
theorem dX7_person_44 : decode cX7_person 44 = .ok (.iload 4, 2) := by decide +kernel
theorem dX7_person_46 : decode cX7_person 46 = .ok (.invokevirtual 64, 3) := by decide +kernel
theorem dX7_person_49 : decode cX7_person 49 = .ok (.ireturn, 1) := by decide +kernel
theorem dX7_of_0 : decode cX7_of 0 = .ok (.aload_n 0, 1) := by decide +kernel
theorem dX7_of_1 : decode cX7_of 1 = .ok (.getfield 25, 3) := by decide +kernel
theorem dX7_of_4 : decode cX7_of 4 = .ok (.iload_n 1, 1) := by decide +kernel
theorem dX7_of_5 : decode cX7_of 5 = .ok (.invokevirtual 68, 3) := by decide +kernel
theorem dX7_of_8 : decode cX7_of 8 = .ok (.ifCond .ne 7, 3) := by decide +kernel
theorem dX7_of_11 : decode cX7_of 11 = .ok (.sipush (-1001), 3) := by decide +kernel
theorem dX7_of_14 : decode cX7_of 14 = .ok (.ireturn, 1) := by decide +kernel
theorem dX7_of_15 : decode cX7_of 15 = .ok (.iload_n 2, 1) := by decide +kernel
theorem dX7_of_16 : decode cX7_of 16 = .ok (.tableswitch 125 0 7 #[48, 58, 68, 78, 88, 98, 107, 116], 48) := by decide +kernel
theorem dX7_of_64 : decode cX7_of 64 = .ok (.aload_n 0, 1) := by decide +kernel
theorem dX7_of_65 : decode cX7_of 65 = .ok (.getfield 25, 3) := by decide +kernel
theorem dX7_of_68 : decode cX7_of 68 = .ok (.getfield 71, 3) := by decide +kernel
theorem dX7_of_71 : decode cX7_of 71 = .ok (.iload_n 1, 1) := by decide +kernel
theorem dX7_of_72 : decode cX7_of 72 = .ok (.iaload, 1) := by decide +kernel
theorem dX7_of_73 : decode cX7_of 73 = .ok (.ireturn, 1) := by decide +kernel
theorem dX7_of_74 : decode cX7_of 74 = .ok (.aload_n 0, 1) := by decide +kernel
theorem dX7_of_75 : decode cX7_of 75 = .ok (.getfield 25, 3) := by decide +kernel
theorem dX7_of_78 : decode cX7_of 78 = .ok (.getfield 75, 3) := by decide +kernel
theorem dX7_of_81 : decode cX7_of 81 = .ok (.iload_n 1, 1) := by decide +kernel
theorem dX7_of_82 : decode cX7_of 82 = .ok (.iaload, 1) := by decide +kernel
theorem dX7_of_83 : decode cX7_of 83 = .ok (.ireturn, 1) := by decide +kernel
theorem dX7_of_84 : decode cX7_of 84 = .ok (.aload_n 0, 1) := by decide +kernel
theorem dX7_of_85 : decode cX7_of 85 = .ok (.getfield 25, 3) := by decide +kernel
theorem dX7_of_88 : decode cX7_of 88 = .ok (.getfield 78, 3) := by decide +kernel
theorem dX7_of_91 : decode cX7_of 91 = .ok (.iload_n 1, 1) := by decide +kernel
theorem dX7_of_92 : decode cX7_of 92 = .ok (.iaload, 1) := by decide +kernel
theorem dX7_of_93 : decode cX7_of 93 = .ok (.ireturn, 1) := by decide +kernel
theorem dX7_of_94 : decode cX7_of 94 = .ok (.aload_n 0, 1) := by decide +kernel
theorem dX7_of_95 : decode cX7_of 95 = .ok (.getfield 25, 3) := by decide +kernel
theorem dX7_of_98 : decode cX7_of 98 = .ok (.getfield 81, 3) := by decide +kernel
theorem dX7_of_101 : decode cX7_of 101 = .ok (.iload_n 1, 1) := by decide +kernel
theorem dX7_of_102 : decode cX7_of 102 = .ok (.iaload, 1) := by decide +kernel
theorem dX7_of_103 : decode cX7_of 103 = .ok (.ireturn, 1) := by decide +kernel
theorem dX7_of_104 : decode cX7_of 104 = .ok (.aload_n 0, 1) := by decide +kernel
theorem dX7_of_105 : decode cX7_of 105 = .ok (.getfield 25, 3) := by decide +kernel
theorem dX7_of_108 : decode cX7_of 108 = .ok (.getfield 84, 3) := by decide +kernel
theorem dX7_of_111 : decode cX7_of 111 = .ok (.iload_n 1, 1) := by decide +kernel
theorem dX7_of_112 : decode cX7_of 112 = .ok (.iaload, 1) := by decide +kernel
theorem dX7_of_113 : decode cX7_of 113 = .ok (.ireturn, 1) := by decide +kernel
theorem dX7_of_114 : decode cX7_of 114 = .ok (.aload_n 0, 1) := by decide +kernel
theorem dX7_of_115 : decode cX7_of 115 = .ok (.getfield 25, 3) := by decide +kernel
theorem dX7_of_118 : decode cX7_of 118 = .ok (.iload_n 1, 1) := by decide +kernel
theorem dX7_of_119 : decode cX7_of 119 = .ok (.invokevirtual 87, 3) := by decide +kernel
theorem dX7_of_122 : decode cX7_of 122 = .ok (.ireturn, 1) := by decide +kernel
theorem dX7_of_123 : decode cX7_of 123 = .ok (.aload_n 0, 1) := by decide +kernel
theorem dX7_of_124 : decode cX7_of 124 = .ok (.getfield 25, 3) := by decide +kernel
theorem dX7_of_127 : decode cX7_of 127 = .ok (.iload_n 1, 1) := by decide +kernel
theorem dX7_of_128 : decode cX7_of 128 = .ok (.invokevirtual 91, 3) := by decide +kernel
theorem dX7_of_131 : decode cX7_of 131 = .ok (.ireturn, 1) := by decide +kernel
theorem dX7_of_132 : decode cX7_of 132 = .ok (.aload_n 0, 1) := by decide +kernel
theorem dX7_of_133 : decode cX7_of 133 = .ok (.getfield 25, 3) := by decide +kernel
theorem dX7_of_136 : decode cX7_of 136 = .ok (.iload_n 1, 1) := by decide +kernel
theorem dX7_of_137 : decode cX7_of 137 = .ok (.invokevirtual 94, 3) := by decide +kernel
theorem dX7_of_140 : decode cX7_of 140 = .ok (.ireturn, 1) := by decide +kernel
theorem dX7_of_141 : decode cX7_of 141 = .ok (.sipush (-1001), 3) := by decide +kernel
theorem dX7_of_144 : decode cX7_of 144 = .ok (.ireturn, 1) := by decide +kernel
theorem dX7_set_0 : decode cX7_set 0 = .ok (.aload_n 0, 1) := by decide +kernel
theorem dX7_set_1 : decode cX7_set 1 = .ok (.getfield 25, 3) := by decide +kernel
theorem dX7_set_4 : decode cX7_set 4 = .ok (.iload_n 1, 1) := by decide +kernel
theorem dX7_set_5 : decode cX7_set 5 = .ok (.invokevirtual 68, 3) := by decide +kernel
theorem dX7_set_8 : decode cX7_set 8 = .ok (.ifCond .eq 12, 3) := by decide +kernel
theorem dX7_set_11 : decode cX7_set 11 = .ok (.iload_n 2, 1) := by decide +kernel
theorem dX7_set_12 : decode cX7_set 12 = .ok (.iconst 0, 1) := by decide +kernel
theorem dX7_set_13 : decode cX7_set 13 = .ok (.iconst 1, 1) := by decide +kernel
theorem dX7_set_14 : decode cX7_set 14 = .ok (.invokestatic 53, 3) := by decide +kernel
theorem dX7_set_17 : decode cX7_set 17 = .ok (.ifCond .ne 5, 3) := by decide +kernel
theorem dX7_set_20 : decode cX7_set 20 = .ok (.iconst (-1), 1) := by decide +kernel
theorem dX7_set_21 : decode cX7_set 21 = .ok (.ireturn, 1) := by decide +kernel
theorem dX7_set_22 : decode cX7_set 22 = .ok (.iload_n 2, 1) := by decide +kernel
theorem dX7_set_23 : decode cX7_set 23 = .ok (.ifCond .ne 13, 3) := by decide +kernel
theorem dX7_set_26 : decode cX7_set 26 = .ok (.iload_n 3, 1) := by decide +kernel
theorem dX7_set_27 : decode cX7_set 27 = .ok (.invokestatic 61, 3) := by decide +kernel
theorem dX7_set_30 : decode cX7_set 30 = .ok (.ifCond .ne 16, 3) := by decide +kernel
theorem dX7_set_33 : decode cX7_set 33 = .ok (.goto 10, 3) := by decide +kernel
theorem dX7_set_36 : decode cX7_set 36 = .ok (.iload_n 3, 1) := by decide +kernel
theorem dX7_set_37 : decode cX7_set 37 = .ok (.invokestatic 57, 3) := by decide +kernel
theorem dX7_set_40 : decode cX7_set 40 = .ok (.ifCond .ne 6, 3) := by decide +kernel
theorem dX7_set_43 : decode cX7_set 43 = .ok (.bipush (-2), 2) := by decide +kernel
theorem dX7_set_45 : decode cX7_set 45 = .ok (.ireturn, 1) := by decide +kernel
theorem dX7_set_46 : decode cX7_set 46 = .ok (.iload_n 2, 1) := by decide +kernel
theorem dX7_set_47 : decode cX7_set 47 = .ok (.ifCond .ne 13, 3) := by decide +kernel
theorem dX7_set_50 : decode cX7_set 50 = .ok (.aload_n 0, 1) := by decide +kernel
theorem dX7_set_51 : decode cX7_set 51 = .ok (.getfield 25, 3) := by decide +kernel
theorem dX7_set_54 : decode cX7_set 54 = .ok (.getfield 78, 3) := by decide +kernel
theorem dX7_set_57 : decode cX7_set 57 = .ok (.goto 10, 3) := by decide +kernel
theorem dX7_set_60 : decode cX7_set 60 = .ok (.aload_n 0, 1) := by decide +kernel
theorem dX7_set_61 : decode cX7_set 61 = .ok (.getfield 25, 3) := by decide +kernel
theorem dX7_set_64 : decode cX7_set 64 = .ok (.getfield 81, 3) := by decide +kernel
theorem dX7_set_67 : decode cX7_set 67 = .ok (.astore 4, 2) := by decide +kernel
theorem dX7_set_69 : decode cX7_set 69 = .ok (.aload 4, 2) := by decide +kernel
theorem dX7_set_71 : decode cX7_set 71 = .ok (.iload_n 1, 1) := by decide +kernel
theorem dX7_set_72 : decode cX7_set 72 = .ok (.iaload, 1) := by decide +kernel
theorem dX7_set_73 : decode cX7_set 73 = .ok (.istore 5, 2) := by decide +kernel
theorem dX7_set_75 : decode cX7_set 75 = .ok (.aload 4, 2) := by decide +kernel
theorem dX7_set_77 : decode cX7_set 77 = .ok (.iload_n 1, 1) := by decide +kernel
theorem dX7_set_78 : decode cX7_set 78 = .ok (.iload_n 3, 1) := by decide +kernel
theorem dX7_set_79 : decode cX7_set 79 = .ok (.iastore, 1) := by decide +kernel
theorem dX7_set_80 : decode cX7_set 80 = .ok (.iload 5, 2) := by decide +kernel
theorem dX7_set_82 : decode cX7_set 82 = .ok (.ireturn, 1) := by decide +kernel
theorem dX7_row_0 : decode cX7_row 0 = .ok (.aload_n 0, 1) := by decide +kernel
theorem dX7_row_1 : decode cX7_row 1 = .ok (.getfield 25, 3) := by decide +kernel
theorem dX7_row_4 : decode cX7_row 4 = .ok (.iload_n 1, 1) := by decide +kernel
theorem dX7_row_5 : decode cX7_row 5 = .ok (.invokevirtual 68, 3) := by decide +kernel
theorem dX7_row_8 : decode cX7_row 8 = .ok (.ifCond .eq 12, 3) := by decide +kernel
theorem dX7_row_11 : decode cX7_row 11 = .ok (.iload_n 2, 1) := by decide +kernel
theorem dX7_row_12 : decode cX7_row 12 = .ok (.iconst 0, 1) := by decide +kernel
theorem dX7_row_13 : decode cX7_row 13 = .ok (.iconst 3, 1) := by decide +kernel
theorem dX7_row_14 : decode cX7_row 14 = .ok (.invokestatic 53, 3) := by decide +kernel
theorem dX7_row_17 : decode cX7_row 17 = .ok (.ifCond .ne 5, 3) := by decide +kernel
theorem dX7_row_20 : decode cX7_row 20 = .ok (.iconst (-1), 1) := by decide +kernel
theorem dX7_row_21 : decode cX7_row 21 = .ok (.ireturn, 1) := by decide +kernel
theorem dX7_row_22 : decode cX7_row 22 = .ok (.iload_n 3, 1) := by decide +kernel
theorem dX7_row_23 : decode cX7_row 23 = .ok (.invokestatic 57, 3) := by decide +kernel
theorem dX7_row_26 : decode cX7_row 26 = .ok (.ifCond .ne 6, 3) := by decide +kernel
theorem dX7_row_29 : decode cX7_row 29 = .ok (.bipush (-2), 2) := by decide +kernel
theorem dX7_row_31 : decode cX7_row 31 = .ok (.ireturn, 1) := by decide +kernel
theorem dX7_row_32 : decode cX7_row 32 = .ok (.aload_n 0, 1) := by decide +kernel
theorem dX7_row_33 : decode cX7_row 33 = .ok (.getfield 25, 3) := by decide +kernel
theorem dX7_row_36 : decode cX7_row 36 = .ok (.getfield 71, 3) := by decide +kernel
theorem dX7_row_39 : decode cX7_row 39 = .ok (.iload_n 1, 1) := by decide +kernel
theorem dX7_row_40 : decode cX7_row 40 = .ok (.iaload, 1) := by decide +kernel
theorem dX7_row_41 : decode cX7_row 41 = .ok (.bipush 6, 2) := by decide +kernel
theorem dX7_row_43 : decode cX7_row 43 = .ok (.if_icmp .eq 6, 3) := by decide +kernel
theorem dX7_row_46 : decode cX7_row 46 = .ok (.bipush (-3), 2) := by decide +kernel
theorem dX7_row_48 : decode cX7_row 48 = .ok (.ireturn, 1) := by decide +kernel
theorem dX7_row_49 : decode cX7_row 49 = .ok (.iload_n 1, 1) := by decide +kernel
theorem dX7_row_50 : decode cX7_row 50 = .ok (.iconst 4, 1) := by decide +kernel
theorem dX7_row_51 : decode cX7_row 51 = .ok (.imul, 1) := by decide +kernel
theorem dX7_row_52 : decode cX7_row 52 = .ok (.iload_n 2, 1) := by decide +kernel
theorem dX7_row_53 : decode cX7_row 53 = .ok (.iadd, 1) := by decide +kernel
theorem dX7_row_54 : decode cX7_row 54 = .ok (.istore 4, 2) := by decide +kernel
theorem dX7_row_56 : decode cX7_row 56 = .ok (.aload_n 0, 1) := by decide +kernel
theorem dX7_row_57 : decode cX7_row 57 = .ok (.getfield 25, 3) := by decide +kernel
theorem dX7_row_60 : decode cX7_row 60 = .ok (.getfield 97, 3) := by decide +kernel
theorem dX7_row_63 : decode cX7_row 63 = .ok (.iload 4, 2) := by decide +kernel
theorem dX7_row_65 : decode cX7_row 65 = .ok (.iaload, 1) := by decide +kernel
theorem dX7_row_66 : decode cX7_row 66 = .ok (.istore 5, 2) := by decide +kernel
theorem dX7_row_68 : decode cX7_row 68 = .ok (.aload_n 0, 1) := by decide +kernel
theorem dX7_row_69 : decode cX7_row 69 = .ok (.getfield 25, 3) := by decide +kernel
theorem dX7_row_72 : decode cX7_row 72 = .ok (.getfield 97, 3) := by decide +kernel
theorem dX7_row_75 : decode cX7_row 75 = .ok (.iload 4, 2) := by decide +kernel
theorem dX7_row_77 : decode cX7_row 77 = .ok (.iload_n 3, 1) := by decide +kernel
theorem dX7_row_78 : decode cX7_row 78 = .ok (.iastore, 1) := by decide +kernel
theorem dX7_row_79 : decode cX7_row 79 = .ok (.iload 5, 2) := by decide +kernel
theorem dX7_row_81 : decode cX7_row 81 = .ok (.ireturn, 1) := by decide +kernel
theorem dX7_with_0 : decode cX7_with 0 = .ok (.aload_n 0, 1) := by decide +kernel
theorem dX7_with_1 : decode cX7_with 1 = .ok (.getfield 25, 3) := by decide +kernel
theorem dX7_with_4 : decode cX7_with 4 = .ok (.iload_n 1, 1) := by decide +kernel
theorem dX7_with_5 : decode cX7_with 5 = .ok (.invokevirtual 68, 3) := by decide +kernel
theorem dX7_with_8 : decode cX7_with 8 = .ok (.ifCond .ne 5, 3) := by decide +kernel
theorem dX7_with_11 : decode cX7_with 11 = .ok (.iconst (-1), 1) := by decide +kernel
theorem dX7_with_12 : decode cX7_with 12 = .ok (.ireturn, 1) := by decide +kernel
theorem dX7_with_13 : decode cX7_with 13 = .ok (.aload_n 0, 1) := by decide +kernel
theorem dX7_with_14 : decode cX7_with 14 = .ok (.getfield 25, 3) := by decide +kernel
theorem dX7_with_17 : decode cX7_with 17 = .ok (.getfield 100, 3) := by decide +kernel
theorem dX7_with_20 : decode cX7_with 20 = .ok (.istore_n 2, 1) := by decide +kernel
theorem dX7_with_21 : decode cX7_with 21 = .ok (.aload_n 0, 1) := by decide +kernel
theorem dX7_with_22 : decode cX7_with 22 = .ok (.getfield 25, 3) := by decide +kernel
theorem dX7_with_25 : decode cX7_with 25 = .ok (.iload_n 1, 1) := by decide +kernel
theorem dX7_with_26 : decode cX7_with 26 = .ok (.invokevirtual 104, 3) := by decide +kernel
theorem dX7_with_29 : decode cX7_with 29 = .ok (.iload_n 2, 1) := by decide +kernel
theorem dX7_with_30 : decode cX7_with 30 = .ok (.ireturn, 1) := by decide +kernel
theorem dX7_weight_0 : decode cX7_weight 0 = .ok (.iload_n 1, 1) := by decide +kernel
theorem dX7_weight_1 : decode cX7_weight 1 = .ok (.iconst 0, 1) := by decide +kernel
theorem dX7_weight_2 : decode cX7_weight 2 = .ok (.sipush 999, 3) := by decide +kernel
theorem dX7_weight_5 : decode cX7_weight 5 = .ok (.invokestatic 53, 3) := by decide +kernel
theorem dX7_weight_8 : decode cX7_weight 8 = .ok (.ifCond .ne 6, 3) := by decide +kernel
theorem dX7_weight_11 : decode cX7_weight 11 = .ok (.bipush (-2), 2) := by decide +kernel
theorem dX7_weight_13 : decode cX7_weight 13 = .ok (.ireturn, 1) := by decide +kernel
theorem dX7_weight_14 : decode cX7_weight 14 = .ok (.aload_n 0, 1) := by decide +kernel
theorem dX7_weight_15 : decode cX7_weight 15 = .ok (.getfield 25, 3) := by decide +kernel
theorem dX7_weight_18 : decode cX7_weight 18 = .ok (.getfield 108, 3) := by decide +kernel
theorem dX7_weight_21 : decode cX7_weight 21 = .ok (.istore_n 2, 1) := by decide +kernel
theorem dX7_weight_22 : decode cX7_weight 22 = .ok (.aload_n 0, 1) := by decide +kernel
theorem dX7_weight_23 : decode cX7_weight 23 = .ok (.getfield 25, 3) := by decide +kernel
theorem dX7_weight_26 : decode cX7_weight 26 = .ok (.iload_n 1, 1) := by decide +kernel
theorem dX7_weight_27 : decode cX7_weight 27 = .ok (.putfield 108, 3) := by decide +kernel
theorem dX7_weight_30 : decode cX7_weight 30 = .ok (.iload_n 2, 1) := by decide +kernel
theorem dX7_weight_31 : decode cX7_weight 31 = .ok (.ireturn, 1) := by decide +kernel
theorem dX7_feed_0 : decode cX7_feed 0 = .ok (.iload_n 1, 1) := by decide +kernel
theorem dX7_feed_1 : decode cX7_feed 1 = .ok (.iconst 0, 1) := by decide +kernel
theorem dX7_feed_2 : decode cX7_feed 2 = .ok (.bipush 127, 2) := by decide +kernel
theorem dX7_feed_4 : decode cX7_feed 4 = .ok (.invokestatic 53, 3) := by decide +kernel
theorem dX7_feed_7 : decode cX7_feed 7 = .ok (.ifCond .ne 6, 3) := by decide +kernel
theorem dX7_feed_10 : decode cX7_feed 10 = .ok (.bipush (-2), 2) := by decide +kernel
theorem dX7_feed_12 : decode cX7_feed 12 = .ok (.ireturn, 1) := by decide +kernel
theorem dX7_feed_13 : decode cX7_feed 13 = .ok (.aload_n 0, 1) := by decide +kernel
theorem dX7_feed_14 : decode cX7_feed 14 = .ok (.getfield 35, 3) := by decide +kernel
theorem dX7_feed_17 : decode cX7_feed 17 = .ok (.iload_n 1, 1) := by decide +kernel
theorem dX7_feed_18 : decode cX7_feed 18 = .ok (.invokevirtual 111, 3) := by decide +kernel
theorem dX7_feed_21 : decode cX7_feed 21 = .ok (.ireturn, 1) := by decide +kernel
theorem dX7_evening_0 : decode cX7_evening 0 = .ok (.aload_n 0, 1) := by decide +kernel
theorem dX7_evening_1 : decode cX7_evening 1 = .ok (.getfield 114, 3) := by decide +kernel
theorem dX7_evening_4 : decode cX7_evening 4 = .ok (.bipush 6, 2) := by decide +kernel
theorem dX7_evening_6 : decode cX7_evening 6 = .ok (.if_icmp .lt 6, 3) := by decide +kernel
theorem dX7_evening_9 : decode cX7_evening 9 = .ok (.bipush (-4), 2) := by decide +kernel
theorem dX7_evening_11 : decode cX7_evening 11 = .ok (.ireturn, 1) := by decide +kernel
theorem dX7_evening_12 : decode cX7_evening 12 = .ok (.aload_n 0, 1) := by decide +kernel
theorem dX7_evening_13 : decode cX7_evening 13 = .ok (.getfield 35, 3) := by decide +kernel
theorem dX7_evening_16 : decode cX7_evening 16 = .ok (.invokevirtual 117, 3) := by decide +kernel
theorem dX7_evening_19 : decode cX7_evening 19 = .ok (.astore_n 1, 1) := by decide +kernel
theorem dX7_evening_20 : decode cX7_evening 20 = .ok (.aload_n 1, 1) := by decide +kernel
theorem dX7_evening_21 : decode cX7_evening 21 = .ok (.ifnonnull 14, 3) := by decide +kernel
theorem dX7_evening_24 : decode cX7_evening 24 = .ok (.bipush (-10), 2) := by decide +kernel
theorem dX7_evening_26 : decode cX7_evening 26 = .ok (.aload_n 0, 1) := by decide +kernel
theorem dX7_evening_27 : decode cX7_evening 27 = .ok (.getfield 35, 3) := by decide +kernel
theorem dX7_evening_30 : decode cX7_evening 30 = .ok (.invokevirtual 121, 3) := by decide +kernel
theorem dX7_evening_33 : decode cX7_evening 33 = .ok (.isub, 1) := by decide +kernel
theorem dX7_evening_34 : decode cX7_evening 34 = .ok (.ireturn, 1) := by decide +kernel
theorem dX7_evening_35 : decode cX7_evening 35 = .ok (.aload_n 0, 1) := by decide +kernel
theorem dX7_evening_36 : decode cX7_evening 36 = .ok (.getfield 25, 3) := by decide +kernel
theorem dX7_evening_39 : decode cX7_evening 39 = .ok (.aload_n 1, 1) := by decide +kernel
theorem dX7_evening_40 : decode cX7_evening 40 = .ok (.putfield 125, 3) := by decide +kernel
theorem dX7_evening_43 : decode cX7_evening 43 = .ok (.aload_n 0, 1) := by decide +kernel
theorem dX7_evening_44 : decode cX7_evening 44 = .ok (.dup, 1) := by decide +kernel
theorem dX7_evening_45 : decode cX7_evening 45 = .ok (.getfield 114, 3) := by decide +kernel
theorem dX7_evening_48 : decode cX7_evening 48 = .ok (.iconst 1, 1) := by decide +kernel
theorem dX7_evening_49 : decode cX7_evening 49 = .ok (.iadd, 1) := by decide +kernel
theorem dX7_evening_50 : decode cX7_evening 50 = .ok (.putfield 114, 3) := by decide +kernel
theorem dX7_evening_53 : decode cX7_evening 53 = .ok (.aload_n 0, 1) := by decide +kernel
theorem dX7_evening_54 : decode cX7_evening 54 = .ok (.getfield 114, 3) := by decide +kernel
theorem dX7_evening_57 : decode cX7_evening 57 = .ok (.iconst 1, 1) := by decide +kernel
theorem dX7_evening_58 : decode cX7_evening 58 = .ok (.isub, 1) := by decide +kernel
theorem dX7_evening_59 : decode cX7_evening 59 = .ok (.ireturn, 1) := by decide +kernel
theorem dX7_told_0 : decode cX7_told 0 = .ok (.iload_n 1, 1) := by decide +kernel
theorem dX7_told_1 : decode cX7_told 1 = .ok (.tableswitch 87 0 5 #[39, 47, 55, 63, 71, 79], 39) := by decide +kernel
theorem dX7_told_40 : decode cX7_told 40 = .ok (.aload_n 0, 1) := by decide +kernel
theorem dX7_told_41 : decode cX7_told 41 = .ok (.getfield 25, 3) := by decide +kernel
theorem dX7_told_44 : decode cX7_told 44 = .ok (.getfield 129, 3) := by decide +kernel
theorem dX7_told_47 : decode cX7_told 47 = .ok (.ireturn, 1) := by decide +kernel
theorem dX7_told_48 : decode cX7_told 48 = .ok (.aload_n 0, 1) := by decide +kernel
theorem dX7_told_49 : decode cX7_told 49 = .ok (.getfield 25, 3) := by decide +kernel
theorem dX7_told_52 : decode cX7_told 52 = .ok (.invokevirtual 132, 3) := by decide +kernel
theorem dX7_told_55 : decode cX7_told 55 = .ok (.ireturn, 1) := by decide +kernel
theorem dX7_told_56 : decode cX7_told 56 = .ok (.aload_n 0, 1) := by decide +kernel
theorem dX7_told_57 : decode cX7_told 57 = .ok (.getfield 25, 3) := by decide +kernel
theorem dX7_told_60 : decode cX7_told 60 = .ok (.getfield 108, 3) := by decide +kernel
theorem dX7_told_63 : decode cX7_told 63 = .ok (.ireturn, 1) := by decide +kernel
theorem dX7_told_64 : decode cX7_told 64 = .ok (.aload_n 0, 1) := by decide +kernel
theorem dX7_told_65 : decode cX7_told 65 = .ok (.getfield 25, 3) := by decide +kernel
theorem dX7_told_68 : decode cX7_told 68 = .ok (.getfield 135, 3) := by decide +kernel
theorem dX7_told_71 : decode cX7_told 71 = .ok (.ireturn, 1) := by decide +kernel
theorem dX7_told_72 : decode cX7_told 72 = .ok (.aload_n 0, 1) := by decide +kernel
theorem dX7_told_73 : decode cX7_told 73 = .ok (.getfield 25, 3) := by decide +kernel
theorem dX7_told_76 : decode cX7_told 76 = .ok (.invokevirtual 138, 3) := by decide +kernel
theorem dX7_told_79 : decode cX7_told 79 = .ok (.ireturn, 1) := by decide +kernel
theorem dX7_told_80 : decode cX7_told 80 = .ok (.aload_n 0, 1) := by decide +kernel
theorem dX7_told_81 : decode cX7_told 81 = .ok (.getfield 25, 3) := by decide +kernel
theorem dX7_told_84 : decode cX7_told 84 = .ok (.invokevirtual 141, 3) := by decide +kernel
theorem dX7_told_87 : decode cX7_told 87 = .ok (.ireturn, 1) := by decide +kernel
theorem dX7_told_88 : decode cX7_told 88 = .ok (.iconst (-1), 1) := by decide +kernel
theorem dX7_told_89 : decode cX7_told 89 = .ok (.ireturn, 1) := by decide +kernel
theorem dX7_step_0 : decode cX7_step 0 = .ok (.aload_n 0, 1) := by decide +kernel
theorem dX7_step_1 : decode cX7_step 1 = .ok (.getfield 25, 3) := by decide +kernel
theorem dX7_step_4 : decode cX7_step 4 = .ok (.getfield 129, 3) := by decide +kernel
theorem dX7_step_7 : decode cX7_step 7 = .ok (.sipush 9999, 3) := by decide +kernel
theorem dX7_step_10 : decode cX7_step 10 = .ok (.if_icmp .lt 6, 3) := by decide +kernel
theorem dX7_step_13 : decode cX7_step 13 = .ok (.bipush (-3), 2) := by decide +kernel
theorem dX7_step_15 : decode cX7_step 15 = .ok (.ireturn, 1) := by decide +kernel
theorem dX7_step_16 : decode cX7_step 16 = .ok (.aload_n 0, 1) := by decide +kernel
theorem dX7_step_17 : decode cX7_step 17 = .ok (.getfield 25, 3) := by decide +kernel
theorem dX7_step_20 : decode cX7_step 20 = .ok (.invokevirtual 144, 3) := by decide +kernel
theorem dX7_step_23 : decode cX7_step 23 = .ok (.ireturn, 1) := by decide +kernel
theorem dX7_on_0 : decode cX7_on 0 = .ok (.aload_n 0, 1) := by decide +kernel
theorem dX7_on_1 : decode cX7_on 1 = .ok (.getfield 25, 3) := by decide +kernel
theorem dX7_on_4 : decode cX7_on 4 = .ok (.iload_n 2, 1) := by decide +kernel
theorem dX7_on_5 : decode cX7_on 5 = .ok (.bipush 10, 2) := by decide +kernel
theorem dX7_on_7 : decode cX7_on 7 = .ok (.isub, 1) := by decide +kernel
theorem dX7_on_8 : decode cX7_on 8 = .ok (.invokevirtual 68, 3) := by decide +kernel
theorem dX7_on_11 : decode cX7_on 11 = .ok (.istore_n 3, 1) := by decide +kernel
theorem dX7_on_12 : decode cX7_on 12 = .ok (.aload_n 0, 1) := by decide +kernel
theorem dX7_on_13 : decode cX7_on 13 = .ok (.getfield 25, 3) := by decide +kernel
theorem dX7_on_16 : decode cX7_on 16 = .ok (.iload_n 2, 1) := by decide +kernel
theorem dX7_on_17 : decode cX7_on 17 = .ok (.bipush 20, 2) := by decide +kernel
theorem dX7_on_19 : decode cX7_on 19 = .ok (.isub, 1) := by decide +kernel
theorem dX7_on_20 : decode cX7_on 20 = .ok (.invokevirtual 68, 3) := by decide +kernel
theorem dX7_on_23 : decode cX7_on 23 = .ok (.istore 4, 2) := by decide +kernel
theorem dX7_on_25 : decode cX7_on 25 = .ok (.iload_n 2, 1) := by decide +kernel
theorem dX7_on_26 : decode cX7_on 26 = .ok (.iconst 0, 1) := by decide +kernel
theorem dX7_on_27 : decode cX7_on 27 = .ok (.iconst 2, 1) := by decide +kernel
theorem dX7_on_28 : decode cX7_on 28 = .ok (.invokestatic 53, 3) := by decide +kernel
theorem dX7_on_31 : decode cX7_on 31 = .ok (.ifCond .ne 14, 3) := by decide +kernel
theorem dX7_on_34 : decode cX7_on 34 = .ok (.iload_n 3, 1) := by decide +kernel
theorem dX7_on_35 : decode cX7_on 35 = .ok (.ifCond .ne 10, 3) := by decide +kernel
theorem dX7_on_38 : decode cX7_on 38 = .ok (.iload 4, 2) := by decide +kernel
theorem dX7_on_40 : decode cX7_on 40 = .ok (.ifCond .ne 5, 3) := by decide +kernel
theorem dX7_on_43 : decode cX7_on 43 = .ok (.iconst (-1), 1) := by decide +kernel
theorem dX7_on_44 : decode cX7_on 44 = .ok (.ireturn, 1) := by decide +kernel
theorem dX7_on_45 : decode cX7_on 45 = .ok (.iload_n 1, 1) := by decide +kernel
theorem dX7_on_46 : decode cX7_on 46 = .ok (.iconst 0, 1) := by decide +kernel
theorem dX7_on_47 : decode cX7_on 47 = .ok (.bipush 99, 2) := by decide +kernel
theorem dX7_on_49 : decode cX7_on 49 = .ok (.invokestatic 53, 3) := by decide +kernel
theorem dX7_on_52 : decode cX7_on 52 = .ok (.ifCond .ne 6, 3) := by decide +kernel
theorem dX7_on_55 : decode cX7_on 55 = .ok (.bipush (-2), 2) := by decide +kernel
theorem dX7_on_57 : decode cX7_on 57 = .ok (.ireturn, 1) := by decide +kernel
theorem dX7_on_58 : decode cX7_on 58 = .ok (.aload_n 0, 1) := by decide +kernel
theorem dX7_on_59 : decode cX7_on 59 = .ok (.getfield 29, 3) := by decide +kernel
theorem dX7_on_62 : decode cX7_on 62 = .ok (.aload_n 0, 1) := by decide +kernel
theorem dX7_on_63 : decode cX7_on 63 = .ok (.getfield 25, 3) := by decide +kernel
theorem dX7_on_66 : decode cX7_on 66 = .ok (.invokevirtual 147, 3) := by decide +kernel
theorem dX7_on_69 : decode cX7_on 69 = .ok (.aload_n 0, 1) := by decide +kernel
theorem dX7_on_70 : decode cX7_on 70 = .ok (.getfield 29, 3) := by decide +kernel
theorem dX7_on_73 : decode cX7_on 73 = .ok (.iload_n 1, 1) := by decide +kernel
theorem dX7_on_74 : decode cX7_on 74 = .ok (.invokevirtual 151, 3) := by decide +kernel
theorem dX7_on_77 : decode cX7_on 77 = .ok (.iload_n 3, 1) := by decide +kernel
theorem dX7_on_78 : decode cX7_on 78 = .ok (.ifCond .eq 16, 3) := by decide +kernel
theorem dX7_on_81 : decode cX7_on 81 = .ok (.aload_n 0, 1) := by decide +kernel
theorem dX7_on_82 : decode cX7_on 82 = .ok (.getfield 29, 3) := by decide +kernel
theorem dX7_on_85 : decode cX7_on 85 = .ok (.getfield 81, 3) := by decide +kernel
theorem dX7_on_88 : decode cX7_on 88 = .ok (.iload_n 2, 1) := by decide +kernel
theorem dX7_on_89 : decode cX7_on 89 = .ok (.bipush 10, 2) := by decide +kernel
theorem dX7_on_91 : decode cX7_on 91 = .ok (.isub, 1) := by decide +kernel
theorem dX7_on_92 : decode cX7_on 92 = .ok (.iaload, 1) := by decide +kernel
theorem dX7_on_93 : decode cX7_on 93 = .ok (.ireturn, 1) := by decide +kernel
theorem dX7_on_94 : decode cX7_on 94 = .ok (.iload 4, 2) := by decide +kernel
theorem dX7_on_96 : decode cX7_on 96 = .ok (.ifCond .eq 18, 3) := by decide +kernel
theorem dX7_on_99 : decode cX7_on 99 = .ok (.aload_n 0, 1) := by decide +kernel
theorem dX7_on_100 : decode cX7_on 100 = .ok (.getfield 29, 3) := by decide +kernel
theorem dX7_on_103 : decode cX7_on 103 = .ok (.getfield 84, 3) := by decide +kernel
theorem dX7_on_106 : decode cX7_on 106 = .ok (.iload_n 2, 1) := by decide +kernel
theorem dX7_on_107 : decode cX7_on 107 = .ok (.bipush 20, 2) := by decide +kernel
theorem dX7_on_109 : decode cX7_on 109 = .ok (.isub, 1) := by decide +kernel
theorem dX7_on_110 : decode cX7_on 110 = .ok (.iaload, 1) := by decide +kernel
theorem dX7_on_111 : decode cX7_on 111 = .ok (.goto 11, 3) := by decide +kernel
theorem dX7_on_114 : decode cX7_on 114 = .ok (.aload_n 0, 1) := by decide +kernel
theorem dX7_on_115 : decode cX7_on 115 = .ok (.getfield 29, 3) := by decide +kernel
theorem dX7_on_118 : decode cX7_on 118 = .ok (.iload_n 2, 1) := by decide +kernel
theorem dX7_on_119 : decode cX7_on 119 = .ok (.invokevirtual 154, 3) := by decide +kernel
theorem dX7_on_122 : decode cX7_on 122 = .ok (.ireturn, 1) := by decide +kernel
theorem dX7_ends_0 : decode cX7_ends 0 = .ok (.aload_n 0, 1) := by decide +kernel
theorem dX7_ends_1 : decode cX7_ends 1 = .ok (.getfield 29, 3) := by decide +kernel
theorem dX7_ends_4 : decode cX7_ends 4 = .ok (.aload_n 0, 1) := by decide +kernel
theorem dX7_ends_5 : decode cX7_ends 5 = .ok (.getfield 25, 3) := by decide +kernel
theorem dX7_ends_8 : decode cX7_ends 8 = .ok (.invokevirtual 147, 3) := by decide +kernel
theorem dX7_ends_11 : decode cX7_ends 11 = .ok (.aload_n 0, 1) := by decide +kernel
theorem dX7_ends_12 : decode cX7_ends 12 = .ok (.getfield 29, 3) := by decide +kernel
theorem dX7_ends_15 : decode cX7_ends 15 = .ok (.invokevirtual 157, 3) := by decide +kernel
theorem dX7_ends_18 : decode cX7_ends 18 = .ok (.istore_n 1, 1) := by decide +kernel
theorem dX7_ends_19 : decode cX7_ends 19 = .ok (.iload_n 1, 1) := by decide +kernel
theorem dX7_ends_20 : decode cX7_ends 20 = .ok (.bipush 99, 2) := by decide +kernel
theorem dX7_ends_22 : decode cX7_ends 22 = .ok (.if_icmp .le 8, 3) := by decide +kernel
theorem dX7_ends_25 : decode cX7_ends 25 = .ok (.bipush (-5), 2) := by decide +kernel
theorem dX7_ends_27 : decode cX7_ends 27 = .ok (.goto 4, 3) := by decide +kernel
theorem dX7_ends_30 : decode cX7_ends 30 = .ok (.iload_n 1, 1) := by decide +kernel
theorem dX7_ends_31 : decode cX7_ends 31 = .ok (.ireturn, 1) := by decide +kernel
theorem dX7_longest_0 : decode cX7_longest 0 = .ok (.bipush (-5), 2) := by decide +kernel
theorem dX7_longest_2 : decode cX7_longest 2 = .ok (.istore_n 1, 1) := by decide +kernel
theorem dX7_longest_3 : decode cX7_longest 3 = .ok (.iconst (-1), 1) := by decide +kernel
theorem dX7_longest_4 : decode cX7_longest 4 = .ok (.istore_n 2, 1) := by decide +kernel
theorem dX7_longest_5 : decode cX7_longest 5 = .ok (.iconst 0, 1) := by decide +kernel
theorem dX7_longest_6 : decode cX7_longest 6 = .ok (.istore_n 3, 1) := by decide +kernel
theorem dX7_longest_7 : decode cX7_longest 7 = .ok (.iload_n 3, 1) := by decide +kernel
theorem dX7_longest_8 : decode cX7_longest 8 = .ok (.aload_n 0, 1) := by decide +kernel
theorem dX7_longest_9 : decode cX7_longest 9 = .ok (.getfield 25, 3) := by decide +kernel
theorem dX7_longest_12 : decode cX7_longest 12 = .ok (.getfield 160, 3) := by decide +kernel
theorem dX7_longest_15 : decode cX7_longest 15 = .ok (.if_icmp .ge 34, 3) := by decide +kernel
theorem dX7_longest_18 : decode cX7_longest 18 = .ok (.aload_n 0, 1) := by decide +kernel
theorem dX7_longest_19 : decode cX7_longest 19 = .ok (.iload_n 3, 1) := by decide +kernel
theorem dX7_longest_20 : decode cX7_longest 20 = .ok (.invokevirtual 163, 3) := by decide +kernel
theorem dX7_longest_23 : decode cX7_longest 23 = .ok (.aload_n 0, 1) := by decide +kernel
theorem dX7_longest_24 : decode cX7_longest 24 = .ok (.getfield 29, 3) := by decide +kernel
theorem dX7_longest_27 : decode cX7_longest 27 = .ok (.invokevirtual 157, 3) := by decide +kernel
theorem dX7_longest_30 : decode cX7_longest 30 = .ok (.istore 4, 2) := by decide +kernel
theorem dX7_longest_32 : decode cX7_longest 32 = .ok (.iload 4, 2) := by decide +kernel
theorem dX7_longest_34 : decode cX7_longest 34 = .ok (.iload_n 2, 1) := by decide +kernel
theorem dX7_longest_35 : decode cX7_longest 35 = .ok (.if_icmp .le 8, 3) := by decide +kernel
theorem dX7_longest_38 : decode cX7_longest 38 = .ok (.iload 4, 2) := by decide +kernel
theorem dX7_longest_40 : decode cX7_longest 40 = .ok (.istore_n 2, 1) := by decide +kernel
theorem dX7_longest_41 : decode cX7_longest 41 = .ok (.iload_n 3, 1) := by decide +kernel
theorem dX7_longest_42 : decode cX7_longest 42 = .ok (.istore_n 1, 1) := by decide +kernel
theorem dX7_longest_43 : decode cX7_longest 43 = .ok (.iinc 3 1, 3) := by decide +kernel
theorem dX7_longest_46 : decode cX7_longest 46 = .ok (.goto (-39), 3) := by decide +kernel
theorem dX7_longest_49 : decode cX7_longest 49 = .ok (.iload_n 1, 1) := by decide +kernel
theorem dX7_longest_50 : decode cX7_longest 50 = .ok (.ireturn, 1) := by decide +kernel
theorem dX7_stand_0 : decode cX7_stand 0 = .ok (.aload_n 0, 1) := by decide +kernel
theorem dX7_stand_1 : decode cX7_stand 1 = .ok (.getfield 25, 3) := by decide +kernel
theorem dX7_stand_4 : decode cX7_stand 4 = .ok (.iload_n 1, 1) := by decide +kernel
theorem dX7_stand_5 : decode cX7_stand 5 = .ok (.invokevirtual 68, 3) := by decide +kernel
theorem dX7_stand_8 : decode cX7_stand 8 = .ok (.ifCond .eq 12, 3) := by decide +kernel
theorem dX7_stand_11 : decode cX7_stand 11 = .ok (.iload_n 3, 1) := by decide +kernel
theorem dX7_stand_12 : decode cX7_stand 12 = .ok (.iconst 0, 1) := by decide +kernel
theorem dX7_stand_13 : decode cX7_stand 13 = .ok (.iconst 1, 1) := by decide +kernel
theorem dX7_stand_14 : decode cX7_stand 14 = .ok (.invokestatic 53, 3) := by decide +kernel
theorem dX7_stand_17 : decode cX7_stand 17 = .ok (.ifCond .ne 5, 3) := by decide +kernel
theorem dX7_stand_20 : decode cX7_stand 20 = .ok (.iconst (-1), 1) := by decide +kernel
theorem dX7_stand_21 : decode cX7_stand 21 = .ok (.ireturn, 1) := by decide +kernel
theorem dX7_stand_22 : decode cX7_stand 22 = .ok (.iload_n 2, 1) := by decide +kernel
theorem dX7_stand_23 : decode cX7_stand 23 = .ok (.iconst 1, 1) := by decide +kernel
theorem dX7_stand_24 : decode cX7_stand 24 = .ok (.bipush 60, 2) := by decide +kernel
theorem dX7_stand_26 : decode cX7_stand 26 = .ok (.invokestatic 53, 3) := by decide +kernel
theorem dX7_stand_29 : decode cX7_stand 29 = .ok (.ifCond .ne 6, 3) := by decide +kernel
theorem dX7_stand_32 : decode cX7_stand 32 = .ok (.bipush (-2), 2) := by decide +kernel
theorem dX7_stand_34 : decode cX7_stand 34 = .ok (.ireturn, 1) := by decide +kernel
theorem dX7_stand_35 : decode cX7_stand 35 = .ok (.iconst 0, 1) := by decide +kernel
theorem dX7_stand_36 : decode cX7_stand 36 = .ok (.istore 4, 2) := by decide +kernel
theorem dX7_stand_38 : decode cX7_stand 38 = .ok (.ldc 168, 2) := by decide +kernel
theorem dX7_stand_40 : decode cX7_stand 40 = .ok (.istore 5, 2) := by decide +kernel
theorem dX7_stand_42 : decode cX7_stand 42 = .ok (.iconst 0, 1) := by decide +kernel
theorem dX7_stand_43 : decode cX7_stand 43 = .ok (.istore 6, 2) := by decide +kernel
theorem dX7_stand_45 : decode cX7_stand 45 = .ok (.iload 6, 2) := by decide +kernel
theorem dX7_stand_47 : decode cX7_stand 47 = .ok (.bipush 20, 2) := by decide +kernel
theorem dX7_stand_49 : decode cX7_stand 49 = .ok (.if_icmp .ge 75, 3) := by decide +kernel
theorem dX7_stand_52 : decode cX7_stand 52 = .ok (.aload_n 0, 1) := by decide +kernel
theorem dX7_stand_53 : decode cX7_stand 53 = .ok (.getfield 29, 3) := by decide +kernel
theorem dX7_stand_56 : decode cX7_stand 56 = .ok (.aload_n 0, 1) := by decide +kernel
theorem dX7_stand_57 : decode cX7_stand 57 = .ok (.getfield 25, 3) := by decide +kernel
theorem dX7_stand_60 : decode cX7_stand 60 = .ok (.invokevirtual 147, 3) := by decide +kernel
theorem dX7_stand_63 : decode cX7_stand 63 = .ok (.aload_n 0, 1) := by decide +kernel
theorem dX7_stand_64 : decode cX7_stand 64 = .ok (.getfield 29, 3) := by decide +kernel
theorem dX7_stand_67 : decode cX7_stand 67 = .ok (.getfield 78, 3) := by decide +kernel
theorem dX7_stand_70 : decode cX7_stand 70 = .ok (.iload_n 1, 1) := by decide +kernel
theorem dX7_stand_71 : decode cX7_stand 71 = .ok (.iload 6, 2) := by decide +kernel
theorem dX7_stand_73 : decode cX7_stand 73 = .ok (.iastore, 1) := by decide +kernel
theorem dX7_stand_74 : decode cX7_stand 74 = .ok (.aload_n 0, 1) := by decide +kernel
theorem dX7_stand_75 : decode cX7_stand 75 = .ok (.getfield 29, 3) := by decide +kernel
theorem dX7_stand_78 : decode cX7_stand 78 = .ok (.iload_n 2, 1) := by decide +kernel
theorem dX7_stand_79 : decode cX7_stand 79 = .ok (.invokevirtual 151, 3) := by decide +kernel
theorem dX7_stand_82 : decode cX7_stand 82 = .ok (.aload_n 0, 1) := by decide +kernel
theorem dX7_stand_83 : decode cX7_stand 83 = .ok (.getfield 29, 3) := by decide +kernel
theorem dX7_stand_86 : decode cX7_stand 86 = .ok (.getfield 84, 3) := by decide +kernel
theorem dX7_stand_89 : decode cX7_stand 89 = .ok (.iload_n 1, 1) := by decide +kernel
theorem dX7_stand_90 : decode cX7_stand 90 = .ok (.iaload, 1) := by decide +kernel
theorem dX7_stand_91 : decode cX7_stand 91 = .ok (.aload_n 0, 1) := by decide +kernel
theorem dX7_stand_92 : decode cX7_stand 92 = .ok (.getfield 25, 3) := by decide +kernel
theorem dX7_stand_95 : decode cX7_stand 95 = .ok (.getfield 84, 3) := by decide +kernel
theorem dX7_stand_98 : decode cX7_stand 98 = .ok (.iload_n 1, 1) := by decide +kernel
theorem dX7_stand_99 : decode cX7_stand 99 = .ok (.iaload, 1) := by decide +kernel
theorem dX7_stand_100 : decode cX7_stand 100 = .ok (.isub, 1) := by decide +kernel
theorem dX7_stand_101 : decode cX7_stand 101 = .ok (.istore 7, 2) := by decide +kernel
theorem dX7_stand_103 : decode cX7_stand 103 = .ok (.iload 7, 2) := by decide +kernel
theorem dX7_stand_105 : decode cX7_stand 105 = .ok (.iload 5, 2) := by decide +kernel
theorem dX7_stand_107 : decode cX7_stand 107 = .ok (.if_icmp .ge 11, 3) := by decide +kernel
theorem dX7_stand_110 : decode cX7_stand 110 = .ok (.iload 7, 2) := by decide +kernel
theorem dX7_stand_112 : decode cX7_stand 112 = .ok (.istore 5, 2) := by decide +kernel
theorem dX7_stand_114 : decode cX7_stand 114 = .ok (.iload 6, 2) := by decide +kernel
theorem dX7_stand_116 : decode cX7_stand 116 = .ok (.istore 4, 2) := by decide +kernel
theorem dX7_stand_118 : decode cX7_stand 118 = .ok (.iinc 6 1, 3) := by decide +kernel
theorem dX7_stand_121 : decode cX7_stand 121 = .ok (.goto (-76), 3) := by decide +kernel
theorem dX7_stand_124 : decode cX7_stand 124 = .ok (.iload_n 3, 1) := by decide +kernel
theorem dX7_stand_125 : decode cX7_stand 125 = .ok (.ifCond .ne 8, 3) := by decide +kernel
theorem dX7_stand_128 : decode cX7_stand 128 = .ok (.iload 4, 2) := by decide +kernel
theorem dX7_stand_130 : decode cX7_stand 130 = .ok (.goto 5, 3) := by decide +kernel
theorem dX7_stand_133 : decode cX7_stand 133 = .ok (.iload 5, 2) := by decide +kernel
theorem dX7_stand_135 : decode cX7_stand 135 = .ok (.ireturn, 1) := by decide +kernel
theorem dX7_needs_0 : decode cX7_needs 0 = .ok (.aload_n 0, 1) := by decide +kernel
theorem dX7_needs_1 : decode cX7_needs 1 = .ok (.getfield 25, 3) := by decide +kernel
theorem dX7_needs_4 : decode cX7_needs 4 = .ok (.iload_n 1, 1) := by decide +kernel
theorem dX7_needs_5 : decode cX7_needs 5 = .ok (.invokevirtual 68, 3) := by decide +kernel
theorem dX7_needs_8 : decode cX7_needs 8 = .ok (.ifCond .ne 5, 3) := by decide +kernel
theorem dX7_needs_11 : decode cX7_needs 11 = .ok (.iconst (-1), 1) := by decide +kernel
theorem dX7_needs_12 : decode cX7_needs 12 = .ok (.ireturn, 1) := by decide +kernel
theorem dX7_needs_13 : decode cX7_needs 13 = .ok (.iload_n 2, 1) := by decide +kernel
theorem dX7_needs_14 : decode cX7_needs 14 = .ok (.iconst 1, 1) := by decide +kernel
theorem dX7_needs_15 : decode cX7_needs 15 = .ok (.bipush 60, 2) := by decide +kernel
theorem dX7_needs_17 : decode cX7_needs 17 = .ok (.invokestatic 53, 3) := by decide +kernel
theorem dX7_needs_20 : decode cX7_needs 20 = .ok (.ifCond .ne 6, 3) := by decide +kernel
theorem dX7_needs_23 : decode cX7_needs 23 = .ok (.bipush (-2), 2) := by decide +kernel
theorem dX7_needs_25 : decode cX7_needs 25 = .ok (.ireturn, 1) := by decide +kernel
theorem dX7_needs_26 : decode cX7_needs 26 = .ok (.iconst 0, 1) := by decide +kernel
theorem dX7_needs_27 : decode cX7_needs 27 = .ok (.istore_n 3, 1) := by decide +kernel
theorem dX7_needs_28 : decode cX7_needs 28 = .ok (.iload_n 3, 1) := by decide +kernel
theorem dX7_needs_29 : decode cX7_needs 29 = .ok (.bipush 9, 2) := by decide +kernel
theorem dX7_needs_31 : decode cX7_needs 31 = .ok (.if_icmp .gt 51, 3) := by decide +kernel
theorem dX7_needs_34 : decode cX7_needs 34 = .ok (.aload_n 0, 1) := by decide +kernel
theorem dX7_needs_35 : decode cX7_needs 35 = .ok (.getfield 29, 3) := by decide +kernel
theorem dX7_needs_38 : decode cX7_needs 38 = .ok (.aload_n 0, 1) := by decide +kernel
theorem dX7_needs_39 : decode cX7_needs 39 = .ok (.getfield 25, 3) := by decide +kernel
theorem dX7_needs_42 : decode cX7_needs 42 = .ok (.invokevirtual 147, 3) := by decide +kernel
theorem dX7_needs_45 : decode cX7_needs 45 = .ok (.aload_n 0, 1) := by decide +kernel
theorem dX7_needs_46 : decode cX7_needs 46 = .ok (.getfield 29, 3) := by decide +kernel
theorem dX7_needs_49 : decode cX7_needs 49 = .ok (.getfield 81, 3) := by decide +kernel
theorem dX7_needs_52 : decode cX7_needs 52 = .ok (.iload_n 1, 1) := by decide +kernel
theorem dX7_needs_53 : decode cX7_needs 53 = .ok (.iload_n 3, 1) := by decide +kernel
theorem dX7_needs_54 : decode cX7_needs 54 = .ok (.iastore, 1) := by decide +kernel
theorem dX7_needs_55 : decode cX7_needs 55 = .ok (.aload_n 0, 1) := by decide +kernel
theorem dX7_needs_56 : decode cX7_needs 56 = .ok (.getfield 29, 3) := by decide +kernel
theorem dX7_needs_59 : decode cX7_needs 59 = .ok (.iload_n 2, 1) := by decide +kernel
theorem dX7_needs_60 : decode cX7_needs 60 = .ok (.invokevirtual 151, 3) := by decide +kernel
theorem dX7_needs_63 : decode cX7_needs 63 = .ok (.aload_n 0, 1) := by decide +kernel
theorem dX7_needs_64 : decode cX7_needs 64 = .ok (.getfield 29, 3) := by decide +kernel
theorem dX7_needs_67 : decode cX7_needs 67 = .ok (.getfield 135, 3) := by decide +kernel
theorem dX7_needs_70 : decode cX7_needs 70 = .ok (.iload_n 1, 1) := by decide +kernel
theorem dX7_needs_71 : decode cX7_needs 71 = .ok (.if_icmp .eq 5, 3) := by decide +kernel
theorem dX7_needs_74 : decode cX7_needs 74 = .ok (.iload_n 3, 1) := by decide +kernel
theorem dX7_needs_75 : decode cX7_needs 75 = .ok (.ireturn, 1) := by decide +kernel
theorem dX7_needs_76 : decode cX7_needs 76 = .ok (.iinc 3 1, 3) := by decide +kernel
theorem dX7_needs_79 : decode cX7_needs 79 = .ok (.goto (-51), 3) := by decide +kernel
theorem dX7_needs_82 : decode cX7_needs 82 = .ok (.bipush (-5), 2) := by decide +kernel
theorem dX7_needs_84 : decode cX7_needs 84 = .ok (.ireturn, 1) := by decide +kernel
theorem dX7_heavy_0 : decode cX7_heavy 0 = .ok (.aload_n 0, 1) := by decide +kernel
theorem dX7_heavy_1 : decode cX7_heavy 1 = .ok (.getfield 25, 3) := by decide +kernel
theorem dX7_heavy_4 : decode cX7_heavy 4 = .ok (.iload_n 1, 1) := by decide +kernel
theorem dX7_heavy_5 : decode cX7_heavy 5 = .ok (.invokevirtual 68, 3) := by decide +kernel
theorem dX7_heavy_8 : decode cX7_heavy 8 = .ok (.ifCond .ne 5, 3) := by decide +kernel
theorem dX7_heavy_11 : decode cX7_heavy 11 = .ok (.iconst (-1), 1) := by decide +kernel
theorem dX7_heavy_12 : decode cX7_heavy 12 = .ok (.ireturn, 1) := by decide +kernel
theorem dX7_heavy_13 : decode cX7_heavy 13 = .ok (.aload_n 0, 1) := by decide +kernel
theorem dX7_heavy_14 : decode cX7_heavy 14 = .ok (.iload_n 1, 1) := by decide +kernel
theorem dX7_heavy_15 : decode cX7_heavy 15 = .ok (.invokevirtual 163, 3) := by decide +kernel
theorem dX7_heavy_18 : decode cX7_heavy 18 = .ok (.sipush 992, 3) := by decide +kernel
theorem dX7_heavy_21 : decode cX7_heavy 21 = .ok (.istore_n 2, 1) := by decide +kernel
theorem dX7_heavy_22 : decode cX7_heavy 22 = .ok (.iload_n 2, 1) := by decide +kernel
theorem dX7_heavy_23 : decode cX7_heavy 23 = .ok (.ifCond .lt 63, 3) := by decide +kernel
theorem dX7_heavy_26 : decode cX7_heavy 26 = .ok (.aload_n 0, 1) := by decide +kernel
theorem dX7_heavy_27 : decode cX7_heavy 27 = .ok (.getfield 29, 3) := by decide +kernel
theorem dX7_heavy_30 : decode cX7_heavy 30 = .ok (.iload_n 2, 1) := by decide +kernel
theorem dX7_heavy_31 : decode cX7_heavy 31 = .ok (.bipush 8, 2) := by decide +kernel
theorem dX7_heavy_33 : decode cX7_heavy 33 = .ok (.iadd, 1) := by decide +kernel
theorem dX7_heavy_34 : decode cX7_heavy 34 = .ok (.iconst 1, 1) := by decide +kernel
theorem dX7_heavy_35 : decode cX7_heavy 35 = .ok (.isub, 1) := by decide +kernel
theorem dX7_heavy_36 : decode cX7_heavy 36 = .ok (.putfield 108, 3) := by decide +kernel
theorem dX7_heavy_39 : decode cX7_heavy 39 = .ok (.aload_n 0, 1) := by decide +kernel
theorem dX7_heavy_40 : decode cX7_heavy 40 = .ok (.getfield 29, 3) := by decide +kernel
theorem dX7_heavy_43 : decode cX7_heavy 43 = .ok (.iload_n 1, 1) := by decide +kernel
theorem dX7_heavy_44 : decode cX7_heavy 44 = .ok (.invokevirtual 91, 3) := by decide +kernel
theorem dX7_heavy_47 : decode cX7_heavy 47 = .ok (.istore_n 3, 1) := by decide +kernel
theorem dX7_heavy_48 : decode cX7_heavy 48 = .ok (.iload_n 3, 1) := by decide +kernel
theorem dX7_heavy_49 : decode cX7_heavy 49 = .ok (.ifCond .lt 31, 3) := by decide +kernel
theorem dX7_heavy_52 : decode cX7_heavy 52 = .ok (.aload_n 0, 1) := by decide +kernel
theorem dX7_heavy_53 : decode cX7_heavy 53 = .ok (.getfield 29, 3) := by decide +kernel
theorem dX7_heavy_56 : decode cX7_heavy 56 = .ok (.iload_n 1, 1) := by decide +kernel
theorem dX7_heavy_57 : decode cX7_heavy 57 = .ok (.iload_n 3, 1) := by decide +kernel
theorem dX7_heavy_58 : decode cX7_heavy 58 = .ok (.invokevirtual 169, 3) := by decide +kernel
theorem dX7_heavy_61 : decode cX7_heavy 61 = .ok (.aload_n 0, 1) := by decide +kernel
theorem dX7_heavy_62 : decode cX7_heavy 62 = .ok (.getfield 29, 3) := by decide +kernel
theorem dX7_heavy_65 : decode cX7_heavy 65 = .ok (.iload_n 1, 1) := by decide +kernel
theorem dX7_heavy_66 : decode cX7_heavy 66 = .ok (.invokevirtual 87, 3) := by decide +kernel
theorem dX7_heavy_69 : decode cX7_heavy 69 = .ok (.if_icmp .gt 11, 3) := by decide +kernel
theorem dX7_heavy_72 : decode cX7_heavy 72 = .ok (.aload_n 0, 1) := by decide +kernel
theorem dX7_heavy_73 : decode cX7_heavy 73 = .ok (.getfield 29, 3) := by decide +kernel
theorem dX7_heavy_76 : decode cX7_heavy 76 = .ok (.getfield 108, 3) := by decide +kernel
theorem dX7_heavy_79 : decode cX7_heavy 79 = .ok (.ireturn, 1) := by decide +kernel
theorem dX7_heavy_80 : decode cX7_heavy 80 = .ok (.iinc 2 (-8), 3) := by decide +kernel
theorem dX7_heavy_83 : decode cX7_heavy 83 = .ok (.goto (-61), 3) := by decide +kernel
theorem dX7_heavy_86 : decode cX7_heavy 86 = .ok (.bipush (-5), 2) := by decide +kernel
theorem dX7_heavy_88 : decode cX7_heavy 88 = .ok (.ireturn, 1) := by decide +kernel
theorem dX7_change_0 : decode cX7_change 0 = .ok (.aload_n 0, 1) := by decide +kernel
theorem dX7_change_1 : decode cX7_change 1 = .ok (.getfield 29, 3) := by decide +kernel
theorem dX7_change_4 : decode cX7_change 4 = .ok (.aload_n 0, 1) := by decide +kernel
theorem dX7_change_5 : decode cX7_change 5 = .ok (.getfield 25, 3) := by decide +kernel
theorem dX7_change_8 : decode cX7_change 8 = .ok (.invokevirtual 147, 3) := by decide +kernel
theorem dX7_change_11 : decode cX7_change 11 = .ok (.aload_n 0, 1) := by decide +kernel
theorem dX7_change_12 : decode cX7_change 12 = .ok (.getfield 29, 3) := by decide +kernel
theorem dX7_change_15 : decode cX7_change 15 = .ok (.invokevirtual 157, 3) := by decide +kernel
theorem dX7_change_18 : decode cX7_change 18 = .ok (.istore_n 1, 1) := by decide +kernel
theorem dX7_change_19 : decode cX7_change 19 = .ok (.bipush (-5), 2) := by decide +kernel
theorem dX7_change_21 : decode cX7_change 21 = .ok (.istore_n 2, 1) := by decide +kernel
theorem dX7_change_22 : decode cX7_change 22 = .ok (.iconst 0, 1) := by decide +kernel
theorem dX7_change_23 : decode cX7_change 23 = .ok (.istore_n 3, 1) := by decide +kernel
theorem dX7_change_24 : decode cX7_change 24 = .ok (.iload_n 3, 1) := by decide +kernel
theorem dX7_change_25 : decode cX7_change 25 = .ok (.aload_n 0, 1) := by decide +kernel
theorem dX7_change_26 : decode cX7_change 26 = .ok (.getfield 25, 3) := by decide +kernel
theorem dX7_change_29 : decode cX7_change 29 = .ok (.getfield 160, 3) := by decide +kernel
theorem dX7_change_32 : decode cX7_change 32 = .ok (.if_icmp .ge 107, 3) := by decide +kernel
theorem dX7_change_35 : decode cX7_change 35 = .ok (.iload_n 3, 1) := by decide +kernel
theorem dX7_change_36 : decode cX7_change 36 = .ok (.iconst 1, 1) := by decide +kernel
theorem dX7_change_37 : decode cX7_change 37 = .ok (.iadd, 1) := by decide +kernel
theorem dX7_change_38 : decode cX7_change 38 = .ok (.istore 4, 2) := by decide +kernel
theorem dX7_change_40 : decode cX7_change 40 = .ok (.iload 4, 2) := by decide +kernel
theorem dX7_change_42 : decode cX7_change 42 = .ok (.aload_n 0, 1) := by decide +kernel
theorem dX7_change_43 : decode cX7_change 43 = .ok (.getfield 25, 3) := by decide +kernel
theorem dX7_change_46 : decode cX7_change 46 = .ok (.getfield 160, 3) := by decide +kernel
theorem dX7_change_49 : decode cX7_change 49 = .ok (.if_icmp .ge 84, 3) := by decide +kernel
theorem dX7_change_52 : decode cX7_change 52 = .ok (.aload_n 0, 1) := by decide +kernel
theorem dX7_change_53 : decode cX7_change 53 = .ok (.getfield 29, 3) := by decide +kernel
theorem dX7_change_56 : decode cX7_change 56 = .ok (.aload_n 0, 1) := by decide +kernel
theorem dX7_change_57 : decode cX7_change 57 = .ok (.getfield 25, 3) := by decide +kernel
theorem dX7_change_60 : decode cX7_change 60 = .ok (.invokevirtual 147, 3) := by decide +kernel
theorem dX7_change_63 : decode cX7_change 63 = .ok (.aload_n 0, 1) := by decide +kernel
theorem dX7_change_64 : decode cX7_change 64 = .ok (.getfield 29, 3) := by decide +kernel
theorem dX7_change_67 : decode cX7_change 67 = .ok (.getfield 78, 3) := by decide +kernel
theorem dX7_change_70 : decode cX7_change 70 = .ok (.iload_n 3, 1) := by decide +kernel
theorem dX7_change_71 : decode cX7_change 71 = .ok (.aload_n 0, 1) := by decide +kernel
theorem dX7_change_72 : decode cX7_change 72 = .ok (.getfield 25, 3) := by decide +kernel
theorem dX7_change_75 : decode cX7_change 75 = .ok (.getfield 78, 3) := by decide +kernel
theorem dX7_change_78 : decode cX7_change 78 = .ok (.iload 4, 2) := by decide +kernel
theorem dX7_change_80 : decode cX7_change 80 = .ok (.iaload, 1) := by decide +kernel
theorem dX7_change_81 : decode cX7_change 81 = .ok (.iastore, 1) := by decide +kernel
theorem dX7_change_82 : decode cX7_change 82 = .ok (.aload_n 0, 1) := by decide +kernel
theorem dX7_change_83 : decode cX7_change 83 = .ok (.getfield 29, 3) := by decide +kernel
theorem dX7_change_86 : decode cX7_change 86 = .ok (.getfield 78, 3) := by decide +kernel
theorem dX7_change_89 : decode cX7_change 89 = .ok (.iload 4, 2) := by decide +kernel
theorem dX7_change_91 : decode cX7_change 91 = .ok (.aload_n 0, 1) := by decide +kernel
theorem dX7_change_92 : decode cX7_change 92 = .ok (.getfield 25, 3) := by decide +kernel
theorem dX7_change_95 : decode cX7_change 95 = .ok (.getfield 78, 3) := by decide +kernel
theorem dX7_change_98 : decode cX7_change 98 = .ok (.iload_n 3, 1) := by decide +kernel
theorem dX7_change_99 : decode cX7_change 99 = .ok (.iaload, 1) := by decide +kernel
theorem dX7_change_100 : decode cX7_change 100 = .ok (.iastore, 1) := by decide +kernel
theorem dX7_change_101 : decode cX7_change 101 = .ok (.aload_n 0, 1) := by decide +kernel
theorem dX7_change_102 : decode cX7_change 102 = .ok (.getfield 29, 3) := by decide +kernel
theorem dX7_change_105 : decode cX7_change 105 = .ok (.invokevirtual 157, 3) := by decide +kernel
theorem dX7_change_108 : decode cX7_change 108 = .ok (.istore 5, 2) := by decide +kernel
theorem dX7_change_110 : decode cX7_change 110 = .ok (.iload 5, 2) := by decide +kernel
theorem dX7_change_112 : decode cX7_change 112 = .ok (.iload_n 1, 1) := by decide +kernel
theorem dX7_change_113 : decode cX7_change 113 = .ok (.if_icmp .le 14, 3) := by decide +kernel
theorem dX7_change_116 : decode cX7_change 116 = .ok (.iload 5, 2) := by decide +kernel
theorem dX7_change_118 : decode cX7_change 118 = .ok (.istore_n 1, 1) := by decide +kernel
theorem dX7_change_119 : decode cX7_change 119 = .ok (.bipush 10, 2) := by decide +kernel
theorem dX7_change_121 : decode cX7_change 121 = .ok (.iload_n 3, 1) := by decide +kernel
theorem dX7_change_122 : decode cX7_change 122 = .ok (.imul, 1) := by decide +kernel
theorem dX7_change_123 : decode cX7_change 123 = .ok (.iload 4, 2) := by decide +kernel
theorem dX7_change_125 : decode cX7_change 125 = .ok (.iadd, 1) := by decide +kernel
theorem dX7_change_126 : decode cX7_change 126 = .ok (.istore_n 2, 1) := by decide +kernel
theorem dX7_change_127 : decode cX7_change 127 = .ok (.iinc 4 1, 3) := by decide +kernel
theorem dX7_change_130 : decode cX7_change 130 = .ok (.goto (-90), 3) := by decide +kernel
theorem dX7_change_133 : decode cX7_change 133 = .ok (.iinc 3 1, 3) := by decide +kernel
theorem dX7_change_136 : decode cX7_change 136 = .ok (.goto (-112), 3) := by decide +kernel
theorem dX7_change_139 : decode cX7_change 139 = .ok (.iload_n 2, 1) := by decide +kernel
theorem dX7_change_140 : decode cX7_change 140 = .ok (.ireturn, 1) := by decide +kernel
theorem dX7_mute_0 : decode cX7_mute 0 = .ok (.iload_n 1, 1) := by decide +kernel
theorem dX7_mute_1 : decode cX7_mute 1 = .ok (.iconst 1, 1) := by decide +kernel
theorem dX7_mute_2 : decode cX7_mute 2 = .ok (.bipush 60, 2) := by decide +kernel
theorem dX7_mute_4 : decode cX7_mute 4 = .ok (.invokestatic 53, 3) := by decide +kernel
theorem dX7_mute_7 : decode cX7_mute 7 = .ok (.ifCond .ne 6, 3) := by decide +kernel
theorem dX7_mute_10 : decode cX7_mute 10 = .ok (.bipush (-2), 2) := by decide +kernel
theorem dX7_mute_12 : decode cX7_mute 12 = .ok (.ireturn, 1) := by decide +kernel
theorem dX7_mute_13 : decode cX7_mute 13 = .ok (.iconst 1, 1) := by decide +kernel
theorem dX7_mute_14 : decode cX7_mute 14 = .ok (.aload_n 0, 1) := by decide +kernel
theorem dX7_mute_15 : decode cX7_mute 15 = .ok (.getfield 25, 3) := by decide +kernel
theorem dX7_mute_18 : decode cX7_mute 18 = .ok (.getfield 160, 3) := by decide +kernel
theorem dX7_mute_21 : decode cX7_mute 21 = .ok (.ishl, 1) := by decide +kernel
theorem dX7_mute_22 : decode cX7_mute 22 = .ok (.iconst 1, 1) := by decide +kernel
theorem dX7_mute_23 : decode cX7_mute 23 = .ok (.isub, 1) := by decide +kernel
theorem dX7_mute_24 : decode cX7_mute 24 = .ok (.istore_n 2, 1) := by decide +kernel
theorem dX7_mute_25 : decode cX7_mute 25 = .ok (.iconst 0, 1) := by decide +kernel
theorem dX7_mute_26 : decode cX7_mute 26 = .ok (.istore_n 3, 1) := by decide +kernel
theorem dX7_mute_27 : decode cX7_mute 27 = .ok (.iload_n 3, 1) := by decide +kernel
theorem dX7_mute_28 : decode cX7_mute 28 = .ok (.aload_n 0, 1) := by decide +kernel
theorem dX7_mute_29 : decode cX7_mute 29 = .ok (.getfield 25, 3) := by decide +kernel
theorem dX7_mute_32 : decode cX7_mute 32 = .ok (.getfield 160, 3) := by decide +kernel
theorem dX7_mute_35 : decode cX7_mute 35 = .ok (.if_icmp .ge 75, 3) := by decide +kernel
theorem dX7_mute_38 : decode cX7_mute 38 = .ok (.aload_n 0, 1) := by decide +kernel
theorem dX7_mute_39 : decode cX7_mute 39 = .ok (.iload_n 3, 1) := by decide +kernel
theorem dX7_mute_40 : decode cX7_mute 40 = .ok (.invokevirtual 163, 3) := by decide +kernel
theorem dX7_mute_43 : decode cX7_mute 43 = .ok (.aload_n 0, 1) := by decide +kernel
theorem dX7_mute_44 : decode cX7_mute 44 = .ok (.getfield 29, 3) := by decide +kernel
theorem dX7_mute_47 : decode cX7_mute 47 = .ok (.iload_n 1, 1) := by decide +kernel
theorem dX7_mute_48 : decode cX7_mute 48 = .ok (.invokevirtual 151, 3) := by decide +kernel
theorem dX7_mute_51 : decode cX7_mute 51 = .ok (.iconst 0, 1) := by decide +kernel
theorem dX7_mute_52 : decode cX7_mute 52 = .ok (.istore 4, 2) := by decide +kernel
theorem dX7_mute_54 : decode cX7_mute 54 = .ok (.iload 4, 2) := by decide +kernel
theorem dX7_mute_56 : decode cX7_mute 56 = .ok (.aload_n 0, 1) := by decide +kernel
theorem dX7_mute_57 : decode cX7_mute 57 = .ok (.getfield 25, 3) := by decide +kernel
theorem dX7_mute_60 : decode cX7_mute 60 = .ok (.getfield 160, 3) := by decide +kernel
theorem dX7_mute_63 : decode cX7_mute 63 = .ok (.if_icmp .ge 41, 3) := by decide +kernel
theorem dX7_mute_66 : decode cX7_mute 66 = .ok (.aload_n 0, 1) := by decide +kernel
theorem dX7_mute_67 : decode cX7_mute 67 = .ok (.getfield 29, 3) := by decide +kernel
theorem dX7_mute_70 : decode cX7_mute 70 = .ok (.getfield 84, 3) := by decide +kernel
theorem dX7_mute_73 : decode cX7_mute 73 = .ok (.iload 4, 2) := by decide +kernel
theorem dX7_mute_75 : decode cX7_mute 75 = .ok (.iaload, 1) := by decide +kernel
theorem dX7_mute_76 : decode cX7_mute 76 = .ok (.aload_n 0, 1) := by decide +kernel
theorem dX7_mute_77 : decode cX7_mute 77 = .ok (.getfield 25, 3) := by decide +kernel
theorem dX7_mute_80 : decode cX7_mute 80 = .ok (.getfield 84, 3) := by decide +kernel
theorem dX7_mute_83 : decode cX7_mute 83 = .ok (.iload 4, 2) := by decide +kernel
theorem dX7_mute_85 : decode cX7_mute 85 = .ok (.iaload, 1) := by decide +kernel
theorem dX7_mute_86 : decode cX7_mute 86 = .ok (.if_icmp .eq 12, 3) := by decide +kernel
theorem dX7_mute_89 : decode cX7_mute 89 = .ok (.iload_n 2, 1) := by decide +kernel
theorem dX7_mute_90 : decode cX7_mute 90 = .ok (.iconst 1, 1) := by decide +kernel
theorem dX7_mute_91 : decode cX7_mute 91 = .ok (.iload 4, 2) := by decide +kernel
theorem dX7_mute_93 : decode cX7_mute 93 = .ok (.ishl, 1) := by decide +kernel
theorem dX7_mute_94 : decode cX7_mute 94 = .ok (.iconst (-1), 1) := by decide +kernel
theorem dX7_mute_95 : decode cX7_mute 95 = .ok (.ixor, 1) := by decide +kernel
theorem dX7_mute_96 : decode cX7_mute 96 = .ok (.iand, 1) := by decide +kernel
theorem dX7_mute_97 : decode cX7_mute 97 = .ok (.istore_n 2, 1) := by decide +kernel
theorem dX7_mute_98 : decode cX7_mute 98 = .ok (.iinc 4 1, 3) := by decide +kernel
theorem dX7_mute_101 : decode cX7_mute 101 = .ok (.goto (-47), 3) := by decide +kernel
theorem dX7_mute_104 : decode cX7_mute 104 = .ok (.iinc 3 1, 3) := by decide +kernel
theorem dX7_mute_107 : decode cX7_mute 107 = .ok (.goto (-80), 3) := by decide +kernel
theorem dX7_mute_110 : decode cX7_mute 110 = .ok (.iload_n 2, 1) := by decide +kernel
theorem dX7_mute_111 : decode cX7_mute 111 = .ok (.ireturn, 1) := by decide +kernel
theorem dX7_see_0 : decode cX7_see 0 = .ok (.iload_n 1, 1) := by decide +kernel
theorem dX7_see_1 : decode cX7_see 1 = .ok (.iconst (-1), 1) := by decide +kernel
theorem dX7_see_2 : decode cX7_see 2 = .ok (.if_icmp .ne 14, 3) := by decide +kernel
theorem dX7_see_5 : decode cX7_see 5 = .ok (.aload_n 0, 1) := by decide +kernel
theorem dX7_see_6 : decode cX7_see 6 = .ok (.getfield 12, 3) := by decide +kernel
theorem dX7_see_9 : decode cX7_see 9 = .ok (.getfield 173, 3) := by decide +kernel
theorem dX7_see_12 : decode cX7_see 12 = .ok (.invokevirtual 177, 3) := by decide +kernel
theorem dX7_see_15 : decode cX7_see 15 = .ok (.ireturn, 1) := by decide +kernel
theorem dX7_see_16 : decode cX7_see 16 = .ok (.aload_n 0, 1) := by decide +kernel
theorem dX7_see_17 : decode cX7_see 17 = .ok (.getfield 25, 3) := by decide +kernel
theorem dX7_see_20 : decode cX7_see 20 = .ok (.iload_n 1, 1) := by decide +kernel
theorem dX7_see_21 : decode cX7_see 21 = .ok (.invokevirtual 68, 3) := by decide +kernel
theorem dX7_see_24 : decode cX7_see 24 = .ok (.ifCond .ne 5, 3) := by decide +kernel
theorem dX7_see_27 : decode cX7_see 27 = .ok (.iconst (-1), 1) := by decide +kernel
theorem dX7_see_28 : decode cX7_see 28 = .ok (.ireturn, 1) := by decide +kernel
theorem dX7_see_29 : decode cX7_see 29 = .ok (.iload_n 2, 1) := by decide +kernel
theorem dX7_see_30 : decode cX7_see 30 = .ok (.iconst 0, 1) := by decide +kernel
theorem dX7_see_31 : decode cX7_see 31 = .ok (.bipush 60, 2) := by decide +kernel
theorem dX7_see_33 : decode cX7_see 33 = .ok (.invokestatic 53, 3) := by decide +kernel
theorem dX7_see_36 : decode cX7_see 36 = .ok (.ifCond .ne 6, 3) := by decide +kernel
theorem dX7_see_39 : decode cX7_see 39 = .ok (.bipush (-2), 2) := by decide +kernel
theorem dX7_see_41 : decode cX7_see 41 = .ok (.ireturn, 1) := by decide +kernel
theorem dX7_see_42 : decode cX7_see 42 = .ok (.aload_n 0, 1) := by decide +kernel
theorem dX7_see_43 : decode cX7_see 43 = .ok (.getfield 12, 3) := by decide +kernel
theorem dX7_see_46 : decode cX7_see 46 = .ok (.getfield 173, 3) := by decide +kernel
theorem dX7_see_49 : decode cX7_see 49 = .ok (.iload_n 1, 1) := by decide +kernel
theorem dX7_see_50 : decode cX7_see 50 = .ok (.iload_n 2, 1) := by decide +kernel
theorem dX7_see_51 : decode cX7_see 51 = .ok (.invokevirtual 182, 3) := by decide +kernel
theorem dX7_see_54 : decode cX7_see 54 = .ok (.ireturn, 1) := by decide +kernel
theorem dX7_from_0 : decode cX7_from 0 = .ok (.iconst 0, 1) := by decide +kernel
theorem dX7_from_1 : decode cX7_from 1 = .ok (.istore_n 1, 1) := by decide +kernel
theorem dX7_from_2 : decode cX7_from 2 = .ok (.iconst 0, 1) := by decide +kernel
theorem dX7_from_3 : decode cX7_from 3 = .ok (.istore_n 2, 1) := by decide +kernel
theorem dX7_from_4 : decode cX7_from 4 = .ok (.iload_n 2, 1) := by decide +kernel
theorem dX7_from_5 : decode cX7_from 5 = .ok (.aload_n 0, 1) := by decide +kernel
theorem dX7_from_6 : decode cX7_from 6 = .ok (.getfield 25, 3) := by decide +kernel
theorem dX7_from_9 : decode cX7_from 9 = .ok (.getfield 160, 3) := by decide +kernel
theorem dX7_from_12 : decode cX7_from 12 = .ok (.if_icmp .ge 27, 3) := by decide +kernel
theorem dX7_from_15 : decode cX7_from 15 = .ok (.aload_n 0, 1) := by decide +kernel
theorem dX7_from_16 : decode cX7_from 16 = .ok (.iload_n 2, 1) := by decide +kernel
theorem dX7_from_17 : decode cX7_from 17 = .ok (.invokevirtual 163, 3) := by decide +kernel
theorem dX7_from_20 : decode cX7_from 20 = .ok (.aload_n 0, 1) := by decide +kernel
theorem dX7_from_21 : decode cX7_from 21 = .ok (.invokevirtual 185, 3) := by decide +kernel
theorem dX7_from_24 : decode cX7_from 24 = .ok (.ifCond .eq 9, 3) := by decide +kernel
theorem dX7_from_27 : decode cX7_from 27 = .ok (.iload_n 1, 1) := by decide +kernel
theorem dX7_from_28 : decode cX7_from 28 = .ok (.iconst 1, 1) := by decide +kernel
theorem dX7_from_29 : decode cX7_from 29 = .ok (.iload_n 2, 1) := by decide +kernel
theorem dX7_from_30 : decode cX7_from 30 = .ok (.ishl, 1) := by decide +kernel
theorem dX7_from_31 : decode cX7_from 31 = .ok (.ior, 1) := by decide +kernel
theorem dX7_from_32 : decode cX7_from 32 = .ok (.istore_n 1, 1) := by decide +kernel
theorem dX7_from_33 : decode cX7_from 33 = .ok (.iinc 2 1, 3) := by decide +kernel
theorem dX7_from_36 : decode cX7_from 36 = .ok (.goto (-32), 3) := by decide +kernel
theorem dX7_from_39 : decode cX7_from 39 = .ok (.iload_n 1, 1) := by decide +kernel
theorem dX7_from_40 : decode cX7_from 40 = .ok (.ireturn, 1) := by decide +kernel
theorem dX7_had_0 : decode cX7_had 0 = .ok (.aload_n 0, 1) := by decide +kernel
theorem dX7_had_1 : decode cX7_had 1 = .ok (.getfield 25, 3) := by decide +kernel
theorem dX7_had_4 : decode cX7_had 4 = .ok (.iload_n 1, 1) := by decide +kernel
theorem dX7_had_5 : decode cX7_had 5 = .ok (.invokevirtual 68, 3) := by decide +kernel
theorem dX7_had_8 : decode cX7_had 8 = .ok (.ifCond .eq 12, 3) := by decide +kernel
theorem dX7_had_11 : decode cX7_had 11 = .ok (.iload_n 2, 1) := by decide +kernel
theorem dX7_had_12 : decode cX7_had 12 = .ok (.iconst 0, 1) := by decide +kernel
theorem dX7_had_13 : decode cX7_had 13 = .ok (.iconst 1, 1) := by decide +kernel
theorem dX7_had_14 : decode cX7_had 14 = .ok (.invokestatic 53, 3) := by decide +kernel
theorem dX7_had_17 : decode cX7_had 17 = .ok (.ifCond .ne 5, 3) := by decide +kernel
theorem dX7_had_20 : decode cX7_had 20 = .ok (.iconst (-1), 1) := by decide +kernel
theorem dX7_had_21 : decode cX7_had 21 = .ok (.ireturn, 1) := by decide +kernel
theorem dX7_had_22 : decode cX7_had 22 = .ok (.iconst 0, 1) := by decide +kernel
theorem dX7_had_23 : decode cX7_had 23 = .ok (.istore_n 3, 1) := by decide +kernel
theorem dX7_had_24 : decode cX7_had 24 = .ok (.bipush (-5), 2) := by decide +kernel
theorem dX7_had_26 : decode cX7_had 26 = .ok (.istore 4, 2) := by decide +kernel
theorem dX7_had_28 : decode cX7_had 28 = .ok (.bipush 9, 2) := by decide +kernel
theorem dX7_had_30 : decode cX7_had 30 = .ok (.istore 5, 2) := by decide +kernel
theorem dX7_had_32 : decode cX7_had 32 = .ok (.iload 5, 2) := by decide +kernel
theorem dX7_had_34 : decode cX7_had 34 = .ok (.ifCond .lt 45, 3) := by decide +kernel
theorem dX7_had_37 : decode cX7_had 37 = .ok (.aload_n 0, 1) := by decide +kernel
theorem dX7_had_38 : decode cX7_had 38 = .ok (.getfield 29, 3) := by decide +kernel
theorem dX7_had_41 : decode cX7_had 41 = .ok (.aload_n 0, 1) := by decide +kernel
theorem dX7_had_42 : decode cX7_had 42 = .ok (.getfield 25, 3) := by decide +kernel
theorem dX7_had_45 : decode cX7_had 45 = .ok (.invokevirtual 147, 3) := by decide +kernel
theorem dX7_had_48 : decode cX7_had 48 = .ok (.aload_n 0, 1) := by decide +kernel
theorem dX7_had_49 : decode cX7_had 49 = .ok (.getfield 29, 3) := by decide +kernel
theorem dX7_had_52 : decode cX7_had 52 = .ok (.getfield 81, 3) := by decide +kernel
theorem dX7_had_55 : decode cX7_had 55 = .ok (.iload_n 1, 1) := by decide +kernel
theorem dX7_had_56 : decode cX7_had 56 = .ok (.iload 5, 2) := by decide +kernel
theorem dX7_had_58 : decode cX7_had 58 = .ok (.iastore, 1) := by decide +kernel
theorem dX7_had_59 : decode cX7_had 59 = .ok (.aload_n 0, 1) := by decide +kernel
theorem dX7_had_60 : decode cX7_had 60 = .ok (.invokevirtual 185, 3) := by decide +kernel
theorem dX7_had_63 : decode cX7_had 63 = .ok (.ifCond .eq 10, 3) := by decide +kernel
theorem dX7_had_66 : decode cX7_had 66 = .ok (.iinc 3 1, 3) := by decide +kernel
theorem dX7_had_69 : decode cX7_had 69 = .ok (.iload 5, 2) := by decide +kernel
theorem dX7_had_71 : decode cX7_had 71 = .ok (.istore 4, 2) := by decide +kernel
theorem dX7_had_73 : decode cX7_had 73 = .ok (.iinc 5 (-1), 3) := by decide +kernel
theorem dX7_had_76 : decode cX7_had 76 = .ok (.goto (-44), 3) := by decide +kernel
theorem dX7_had_79 : decode cX7_had 79 = .ok (.iload_n 2, 1) := by decide +kernel
theorem dX7_had_80 : decode cX7_had 80 = .ok (.ifCond .ne 7, 3) := by decide +kernel
theorem dX7_had_83 : decode cX7_had 83 = .ok (.iload_n 3, 1) := by decide +kernel
theorem dX7_had_84 : decode cX7_had 84 = .ok (.goto 5, 3) := by decide +kernel
theorem dX7_had_87 : decode cX7_had 87 = .ok (.iload 4, 2) := by decide +kernel
theorem dX7_had_89 : decode cX7_had 89 = .ok (.ireturn, 1) := by decide +kernel
theorem dX7_odds_0 : decode cX7_odds 0 = .ok (.iload_n 1, 1) := by decide +kernel
theorem dX7_odds_1 : decode cX7_odds 1 = .ok (.iconst 0, 1) := by decide +kernel
theorem dX7_odds_2 : decode cX7_odds 2 = .ok (.bipush 99, 2) := by decide +kernel
theorem dX7_odds_4 : decode cX7_odds 4 = .ok (.invokestatic 53, 3) := by decide +kernel
theorem dX7_odds_7 : decode cX7_odds 7 = .ok (.ifCond .eq 22, 3) := by decide +kernel
theorem dX7_odds_10 : decode cX7_odds 10 = .ok (.iload_n 2, 1) := by decide +kernel
theorem dX7_odds_11 : decode cX7_odds 11 = .ok (.iconst 0, 1) := by decide +kernel
theorem dX7_odds_12 : decode cX7_odds 12 = .ok (.iconst 1, 1) := by decide +kernel
theorem dX7_odds_13 : decode cX7_odds 13 = .ok (.invokestatic 53, 3) := by decide +kernel
theorem dX7_odds_16 : decode cX7_odds 16 = .ok (.ifCond .eq 13, 3) := by decide +kernel
theorem dX7_odds_19 : decode cX7_odds 19 = .ok (.aload_n 0, 1) := by decide +kernel
theorem dX7_odds_20 : decode cX7_odds 20 = .ok (.getfield 25, 3) := by decide +kernel
theorem dX7_odds_23 : decode cX7_odds 23 = .ok (.getfield 160, 3) := by decide +kernel
theorem dX7_odds_26 : decode cX7_odds 26 = .ok (.ifCond .ne 7, 3) := by decide +kernel
theorem dX7_odds_29 : decode cX7_odds 29 = .ok (.ldc2_w 189, 3) := by decide +kernel
theorem dX7_odds_32 : decode cX7_odds 32 = .ok (.lreturn, 1) := by decide +kernel
theorem dX7_odds_33 : decode cX7_odds 33 = .ok (.iconst 0, 1) := by decide +kernel
theorem dX7_odds_34 : decode cX7_odds 34 = .ok (.istore_n 3, 1) := by decide +kernel
theorem dX7_odds_35 : decode cX7_odds 35 = .ok (.iconst 0, 1) := by decide +kernel
theorem dX7_odds_36 : decode cX7_odds 36 = .ok (.istore 4, 2) := by decide +kernel
theorem dX7_odds_38 : decode cX7_odds 38 = .ok (.iload 4, 2) := by decide +kernel
theorem dX7_odds_40 : decode cX7_odds 40 = .ok (.aload_n 0, 1) := by decide +kernel
theorem dX7_odds_41 : decode cX7_odds 41 = .ok (.getfield 25, 3) := by decide +kernel
theorem dX7_odds_44 : decode cX7_odds 44 = .ok (.getfield 160, 3) := by decide +kernel
theorem dX7_odds_47 : decode cX7_odds 47 = .ok (.if_icmp .ge 36, 3) := by decide +kernel
theorem dX7_odds_50 : decode cX7_odds 50 = .ok (.aload_n 0, 1) := by decide +kernel
theorem dX7_odds_51 : decode cX7_odds 51 = .ok (.iload 4, 2) := by decide +kernel
theorem dX7_odds_53 : decode cX7_odds 53 = .ok (.invokevirtual 163, 3) := by decide +kernel
theorem dX7_odds_56 : decode cX7_odds 56 = .ok (.aload_n 0, 1) := by decide +kernel
theorem dX7_odds_57 : decode cX7_odds 57 = .ok (.getfield 29, 3) := by decide +kernel
theorem dX7_odds_60 : decode cX7_odds 60 = .ok (.iload_n 1, 1) := by decide +kernel
theorem dX7_odds_61 : decode cX7_odds 61 = .ok (.invokevirtual 151, 3) := by decide +kernel
theorem dX7_odds_64 : decode cX7_odds 64 = .ok (.aload_n 0, 1) := by decide +kernel
theorem dX7_odds_65 : decode cX7_odds 65 = .ok (.getfield 29, 3) := by decide +kernel
theorem dX7_odds_68 : decode cX7_odds 68 = .ok (.invokevirtual 191, 3) := by decide +kernel
theorem dX7_odds_71 : decode cX7_odds 71 = .ok (.ifCond .eq 6, 3) := by decide +kernel
theorem dX7_odds_74 : decode cX7_odds 74 = .ok (.iinc 3 1, 3) := by decide +kernel
theorem dX7_odds_77 : decode cX7_odds 77 = .ok (.iinc 4 1, 3) := by decide +kernel
theorem dX7_odds_80 : decode cX7_odds 80 = .ok (.goto (-42), 3) := by decide +kernel
theorem dX7_odds_83 : decode cX7_odds 83 = .ok (.iload_n 3, 1) := by decide +kernel
theorem dX7_odds_84 : decode cX7_odds 84 = .ok (.aload_n 0, 1) := by decide +kernel
theorem dX7_odds_85 : decode cX7_odds 85 = .ok (.getfield 25, 3) := by decide +kernel
theorem dX7_odds_88 : decode cX7_odds 88 = .ok (.getfield 160, 3) := by decide +kernel
theorem dX7_odds_91 : decode cX7_odds 91 = .ok (.iload_n 2, 1) := by decide +kernel
theorem dX7_odds_92 : decode cX7_odds 92 = .ok (.invokestatic 194, 3) := by decide +kernel
theorem dX7_odds_95 : decode cX7_odds 95 = .ok (.lreturn, 1) := by decide +kernel
theorem dX7_mean_0 : decode cX7_mean 0 = .ok (.iload_n 1, 1) := by decide +kernel
theorem dX7_mean_1 : decode cX7_mean 1 = .ok (.iconst 1, 1) := by decide +kernel
theorem dX7_mean_2 : decode cX7_mean 2 = .ok (.bipush 60, 2) := by decide +kernel
theorem dX7_mean_4 : decode cX7_mean 4 = .ok (.invokestatic 53, 3) := by decide +kernel
theorem dX7_mean_7 : decode cX7_mean 7 = .ok (.ifCond .eq 12, 3) := by decide +kernel
theorem dX7_mean_10 : decode cX7_mean 10 = .ok (.iload_n 2, 1) := by decide +kernel
theorem dX7_mean_11 : decode cX7_mean 11 = .ok (.iconst 0, 1) := by decide +kernel
theorem dX7_mean_12 : decode cX7_mean 12 = .ok (.iconst 1, 1) := by decide +kernel
theorem dX7_mean_13 : decode cX7_mean 13 = .ok (.invokestatic 53, 3) := by decide +kernel
theorem dX7_mean_16 : decode cX7_mean 16 = .ok (.ifCond .ne 7, 3) := by decide +kernel
theorem dX7_mean_19 : decode cX7_mean 19 = .ok (.ldc2_w 189, 3) := by decide +kernel
theorem dX7_mean_22 : decode cX7_mean 22 = .ok (.lreturn, 1) := by decide +kernel
theorem dX7_mean_23 : decode cX7_mean 23 = .ok (.iconst 0, 1) := by decide +kernel
theorem dX7_mean_24 : decode cX7_mean 24 = .ok (.istore_n 3, 1) := by decide +kernel
theorem dX7_mean_25 : decode cX7_mean 25 = .ok (.aload_n 0, 1) := by decide +kernel
theorem dX7_mean_26 : decode cX7_mean 26 = .ok (.getfield 29, 3) := by decide +kernel
theorem dX7_mean_29 : decode cX7_mean 29 = .ok (.aload_n 0, 1) := by decide +kernel
theorem dX7_mean_30 : decode cX7_mean 30 = .ok (.getfield 25, 3) := by decide +kernel
theorem dX7_mean_33 : decode cX7_mean 33 = .ok (.invokevirtual 147, 3) := by decide +kernel
theorem dX7_mean_36 : decode cX7_mean 36 = .ok (.iconst 1, 1) := by decide +kernel
theorem dX7_mean_37 : decode cX7_mean 37 = .ok (.istore 4, 2) := by decide +kernel
theorem dX7_mean_39 : decode cX7_mean 39 = .ok (.iload 4, 2) := by decide +kernel
theorem dX7_mean_41 : decode cX7_mean 41 = .ok (.iload_n 1, 1) := by decide +kernel
theorem dX7_mean_42 : decode cX7_mean 42 = .ok (.if_icmp .gt 27, 3) := by decide +kernel
theorem dX7_mean_45 : decode cX7_mean 45 = .ok (.aload_n 0, 1) := by decide +kernel
theorem dX7_mean_46 : decode cX7_mean 46 = .ok (.getfield 29, 3) := by decide +kernel
theorem dX7_mean_49 : decode cX7_mean 49 = .ok (.invokevirtual 144, 3) := by decide +kernel
theorem dX7_mean_52 : decode cX7_mean 52 = .ok (.pop, 1) := by decide +kernel
theorem dX7_mean_53 : decode cX7_mean 53 = .ok (.iload_n 3, 1) := by decide +kernel
theorem dX7_mean_54 : decode cX7_mean 54 = .ok (.aload_n 0, 1) := by decide +kernel
theorem dX7_mean_55 : decode cX7_mean 55 = .ok (.getfield 29, 3) := by decide +kernel
theorem dX7_mean_58 : decode cX7_mean 58 = .ok (.getfield 108, 3) := by decide +kernel
theorem dX7_mean_61 : decode cX7_mean 61 = .ok (.iadd, 1) := by decide +kernel
theorem dX7_mean_62 : decode cX7_mean 62 = .ok (.istore_n 3, 1) := by decide +kernel
theorem dX7_mean_63 : decode cX7_mean 63 = .ok (.iinc 4 1, 3) := by decide +kernel
theorem dX7_mean_66 : decode cX7_mean 66 = .ok (.goto (-27), 3) := by decide +kernel
theorem dX7_mean_69 : decode cX7_mean 69 = .ok (.iload_n 3, 1) := by decide +kernel
theorem dX7_mean_70 : decode cX7_mean 70 = .ok (.iload_n 1, 1) := by decide +kernel
theorem dX7_mean_71 : decode cX7_mean 71 = .ok (.iload_n 2, 1) := by decide +kernel
theorem dX7_mean_72 : decode cX7_mean 72 = .ok (.invokestatic 194, 3) := by decide +kernel
theorem dX7_mean_75 : decode cX7_mean 75 = .ok (.lreturn, 1) := by decide +kernel
theorem dX7_game_0 : decode cX7_game 0 = .ok (.iload_n 1, 1) := by decide +kernel
theorem dX7_game_1 : decode cX7_game 1 = .ok (.iconst (-1), 1) := by decide +kernel
theorem dX7_game_2 : decode cX7_game 2 = .ok (.if_icmp .ne 14, 3) := by decide +kernel
theorem dX7_game_5 : decode cX7_game 5 = .ok (.aload_n 0, 1) := by decide +kernel
theorem dX7_game_6 : decode cX7_game 6 = .ok (.getfield 12, 3) := by decide +kernel
theorem dX7_game_9 : decode cX7_game 9 = .ok (.getfield 198, 3) := by decide +kernel
theorem dX7_game_12 : decode cX7_game 12 = .ok (.invokevirtual 177, 3) := by decide +kernel
theorem dX7_game_15 : decode cX7_game 15 = .ok (.ireturn, 1) := by decide +kernel
theorem dX7_game_16 : decode cX7_game 16 = .ok (.iload_n 1, 1) := by decide +kernel
theorem dX7_game_17 : decode cX7_game 17 = .ok (.iconst 0, 1) := by decide +kernel
theorem dX7_game_18 : decode cX7_game 18 = .ok (.iconst 2, 1) := by decide +kernel
theorem dX7_game_19 : decode cX7_game 19 = .ok (.invokestatic 53, 3) := by decide +kernel
theorem dX7_game_22 : decode cX7_game 22 = .ok (.ifCond .eq 19, 3) := by decide +kernel
theorem dX7_game_25 : decode cX7_game 25 = .ok (.iload_n 1, 1) := by decide +kernel
theorem dX7_game_26 : decode cX7_game 26 = .ok (.iconst 2, 1) := by decide +kernel
theorem dX7_game_27 : decode cX7_game 27 = .ok (.if_icmp .ne 16, 3) := by decide +kernel
theorem dX7_game_30 : decode cX7_game 30 = .ok (.aload_n 0, 1) := by decide +kernel
theorem dX7_game_31 : decode cX7_game 31 = .ok (.getfield 25, 3) := by decide +kernel
theorem dX7_game_34 : decode cX7_game 34 = .ok (.iload_n 2, 1) := by decide +kernel
theorem dX7_game_35 : decode cX7_game 35 = .ok (.invokevirtual 68, 3) := by decide +kernel
theorem dX7_game_38 : decode cX7_game 38 = .ok (.ifCond .ne 5, 3) := by decide +kernel
theorem dX7_game_41 : decode cX7_game 41 = .ok (.iconst (-1), 1) := by decide +kernel
theorem dX7_game_42 : decode cX7_game 42 = .ok (.ireturn, 1) := by decide +kernel
theorem dX7_game_43 : decode cX7_game 43 = .ok (.aload_n 0, 1) := by decide +kernel
theorem dX7_game_44 : decode cX7_game 44 = .ok (.getfield 12, 3) := by decide +kernel
theorem dX7_game_47 : decode cX7_game 47 = .ok (.getfield 198, 3) := by decide +kernel
theorem dX7_game_50 : decode cX7_game 50 = .ok (.iload_n 1, 1) := by decide +kernel
theorem dX7_game_51 : decode cX7_game 51 = .ok (.iload_n 2, 1) := by decide +kernel
theorem dX7_game_52 : decode cX7_game 52 = .ok (.invokevirtual 182, 3) := by decide +kernel
theorem dX7_game_55 : decode cX7_game 55 = .ok (.ireturn, 1) := by decide +kernel
theorem dX7_gone_0 : decode cX7_gone 0 = .ok (.iload_n 1, 1) := by decide +kernel
theorem dX7_gone_1 : decode cX7_gone 1 = .ok (.iconst 0, 1) := by decide +kernel
theorem dX7_gone_2 : decode cX7_gone 2 = .ok (.iconst 2, 1) := by decide +kernel
theorem dX7_gone_3 : decode cX7_gone 3 = .ok (.invokestatic 53, 3) := by decide +kernel
theorem dX7_gone_6 : decode cX7_gone 6 = .ok (.ifCond .ne 5, 3) := by decide +kernel
theorem dX7_gone_9 : decode cX7_gone 9 = .ok (.iconst (-1), 1) := by decide +kernel
theorem dX7_gone_10 : decode cX7_gone 10 = .ok (.ireturn, 1) := by decide +kernel
theorem dX7_gone_11 : decode cX7_gone 11 = .ok (.aload_n 0, 1) := by decide +kernel
theorem dX7_gone_12 : decode cX7_gone 12 = .ok (.getfield 29, 3) := by decide +kernel
theorem dX7_gone_15 : decode cX7_gone 15 = .ok (.aload_n 0, 1) := by decide +kernel
theorem dX7_gone_16 : decode cX7_gone 16 = .ok (.getfield 25, 3) := by decide +kernel
theorem dX7_gone_19 : decode cX7_gone 19 = .ok (.invokevirtual 147, 3) := by decide +kernel
theorem dX7_gone_22 : decode cX7_gone 22 = .ok (.iconst 0, 1) := by decide +kernel
theorem dX7_gone_23 : decode cX7_gone 23 = .ok (.istore_n 2, 1) := by decide +kernel
theorem dX7_gone_24 : decode cX7_gone 24 = .ok (.iload_n 2, 1) := by decide +kernel
theorem dX7_gone_25 : decode cX7_gone 25 = .ok (.aload_n 0, 1) := by decide +kernel
theorem dX7_gone_26 : decode cX7_gone 26 = .ok (.getfield 12, 3) := by decide +kernel
theorem dX7_gone_29 : decode cX7_gone 29 = .ok (.getfield 198, 3) := by decide +kernel
theorem dX7_gone_32 : decode cX7_gone 32 = .ok (.getfield 201, 3) := by decide +kernel
theorem dX7_gone_35 : decode cX7_gone 35 = .ok (.if_icmp .ge 40, 3) := by decide +kernel
theorem dX7_gone_38 : decode cX7_gone 38 = .ok (.aload_n 0, 1) := by decide +kernel
theorem dX7_gone_39 : decode cX7_gone 39 = .ok (.getfield 29, 3) := by decide +kernel
theorem dX7_gone_42 : decode cX7_gone 42 = .ok (.aload_n 0, 1) := by decide +kernel
theorem dX7_gone_43 : decode cX7_gone 43 = .ok (.getfield 12, 3) := by decide +kernel
theorem dX7_gone_46 : decode cX7_gone 46 = .ok (.getfield 198, 3) := by decide +kernel
theorem dX7_gone_49 : decode cX7_gone 49 = .ok (.getfield 204, 3) := by decide +kernel
theorem dX7_gone_52 : decode cX7_gone 52 = .ok (.iload_n 2, 1) := by decide +kernel
theorem dX7_gone_53 : decode cX7_gone 53 = .ok (.iaload, 1) := by decide +kernel
theorem dX7_gone_54 : decode cX7_gone 54 = .ok (.aload_n 0, 1) := by decide +kernel
theorem dX7_gone_55 : decode cX7_gone 55 = .ok (.getfield 12, 3) := by decide +kernel
theorem dX7_gone_58 : decode cX7_gone 58 = .ok (.getfield 198, 3) := by decide +kernel
theorem dX7_gone_61 : decode cX7_gone 61 = .ok (.getfield 207, 3) := by decide +kernel
theorem dX7_gone_64 : decode cX7_gone 64 = .ok (.iload_n 2, 1) := by decide +kernel
theorem dX7_gone_65 : decode cX7_gone 65 = .ok (.iaload, 1) := by decide +kernel
theorem dX7_gone_66 : decode cX7_gone 66 = .ok (.invokevirtual 210, 3) := by decide +kernel
theorem dX7_gone_69 : decode cX7_gone 69 = .ok (.iinc 2 1, 3) := by decide +kernel
theorem dX7_gone_72 : decode cX7_gone 72 = .ok (.goto (-48), 3) := by decide +kernel
theorem dX7_gone_75 : decode cX7_gone 75 = .ok (.aload_n 0, 1) := by decide +kernel
theorem dX7_gone_76 : decode cX7_gone 76 = .ok (.getfield 29, 3) := by decide +kernel
theorem dX7_gone_79 : decode cX7_gone 79 = .ok (.iload_n 1, 1) := by decide +kernel
theorem dX7_gone_80 : decode cX7_gone 80 = .ok (.invokevirtual 154, 3) := by decide +kernel
theorem dX7_gone_83 : decode cX7_gone 83 = .ok (.ireturn, 1) := by decide +kernel
theorem dX7_book_0 : decode cX7_book 0 = .ok (.iload_n 1, 1) := by decide +kernel
theorem dX7_book_1 : decode cX7_book 1 = .ok (.iconst (-1), 1) := by decide +kernel
theorem dX7_book_2 : decode cX7_book 2 = .ok (.if_icmp .ne 14, 3) := by decide +kernel
theorem dX7_book_5 : decode cX7_book 5 = .ok (.aload_n 0, 1) := by decide +kernel
theorem dX7_book_6 : decode cX7_book 6 = .ok (.getfield 12, 3) := by decide +kernel
theorem dX7_book_9 : decode cX7_book 9 = .ok (.getfield 214, 3) := by decide +kernel
theorem dX7_book_12 : decode cX7_book 12 = .ok (.invokevirtual 177, 3) := by decide +kernel
theorem dX7_book_15 : decode cX7_book 15 = .ok (.ireturn, 1) := by decide +kernel
theorem dX7_book_16 : decode cX7_book 16 = .ok (.aload_n 0, 1) := by decide +kernel
theorem dX7_book_17 : decode cX7_book 17 = .ok (.getfield 25, 3) := by decide +kernel
theorem dX7_book_20 : decode cX7_book 20 = .ok (.iload_n 1, 1) := by decide +kernel
theorem dX7_book_21 : decode cX7_book 21 = .ok (.invokevirtual 68, 3) := by decide +kernel
theorem dX7_book_24 : decode cX7_book 24 = .ok (.ifCond .ne 5, 3) := by decide +kernel
theorem dX7_book_27 : decode cX7_book 27 = .ok (.iconst (-1), 1) := by decide +kernel
theorem dX7_book_28 : decode cX7_book 28 = .ok (.ireturn, 1) := by decide +kernel
theorem dX7_book_29 : decode cX7_book 29 = .ok (.iload_n 2, 1) := by decide +kernel
theorem dX7_book_30 : decode cX7_book 30 = .ok (.iconst 0, 1) := by decide +kernel
theorem dX7_book_31 : decode cX7_book 31 = .ok (.sipush 9999, 3) := by decide +kernel
theorem dX7_book_34 : decode cX7_book 34 = .ok (.invokestatic 53, 3) := by decide +kernel
theorem dX7_book_37 : decode cX7_book 37 = .ok (.ifCond .ne 6, 3) := by decide +kernel
theorem dX7_book_40 : decode cX7_book 40 = .ok (.bipush (-2), 2) := by decide +kernel
theorem dX7_book_42 : decode cX7_book 42 = .ok (.ireturn, 1) := by decide +kernel
theorem dX7_book_43 : decode cX7_book 43 = .ok (.aload_n 0, 1) := by decide +kernel
theorem dX7_book_44 : decode cX7_book 44 = .ok (.getfield 12, 3) := by decide +kernel
theorem dX7_book_47 : decode cX7_book 47 = .ok (.getfield 214, 3) := by decide +kernel
theorem dX7_book_50 : decode cX7_book 50 = .ok (.iload_n 1, 1) := by decide +kernel
theorem dX7_book_51 : decode cX7_book 51 = .ok (.iload_n 2, 1) := by decide +kernel
theorem dX7_book_52 : decode cX7_book 52 = .ok (.invokevirtual 182, 3) := by decide +kernel
theorem dX7_book_55 : decode cX7_book 55 = .ok (.ireturn, 1) := by decide +kernel
theorem dX7_looked_0 : decode cX7_looked 0 = .ok (.iconst 0, 1) := by decide +kernel
theorem dX7_looked_1 : decode cX7_looked 1 = .ok (.istore_n 1, 1) := by decide +kernel
theorem dX7_looked_2 : decode cX7_looked 2 = .ok (.iload_n 1, 1) := by decide +kernel
theorem dX7_looked_3 : decode cX7_looked 3 = .ok (.aload_n 0, 1) := by decide +kernel
theorem dX7_looked_4 : decode cX7_looked 4 = .ok (.getfield 12, 3) := by decide +kernel
theorem dX7_looked_7 : decode cX7_looked 7 = .ok (.getfield 214, 3) := by decide +kernel
theorem dX7_looked_10 : decode cX7_looked 10 = .ok (.getfield 201, 3) := by decide +kernel
theorem dX7_looked_13 : decode cX7_looked 13 = .ok (.if_icmp .ge 59, 3) := by decide +kernel
theorem dX7_looked_16 : decode cX7_looked 16 = .ok (.aload_n 0, 1) := by decide +kernel
theorem dX7_looked_17 : decode cX7_looked 17 = .ok (.getfield 12, 3) := by decide +kernel
theorem dX7_looked_20 : decode cX7_looked 20 = .ok (.getfield 214, 3) := by decide +kernel
theorem dX7_looked_23 : decode cX7_looked 23 = .ok (.getfield 204, 3) := by decide +kernel
theorem dX7_looked_26 : decode cX7_looked 26 = .ok (.iload_n 1, 1) := by decide +kernel
theorem dX7_looked_27 : decode cX7_looked 27 = .ok (.iaload, 1) := by decide +kernel
theorem dX7_looked_28 : decode cX7_looked 28 = .ok (.istore_n 2, 1) := by decide +kernel
theorem dX7_looked_29 : decode cX7_looked 29 = .ok (.aload_n 0, 1) := by decide +kernel
theorem dX7_looked_30 : decode cX7_looked 30 = .ok (.getfield 25, 3) := by decide +kernel
theorem dX7_looked_33 : decode cX7_looked 33 = .ok (.iload_n 2, 1) := by decide +kernel
theorem dX7_looked_34 : decode cX7_looked 34 = .ok (.invokevirtual 68, 3) := by decide +kernel
theorem dX7_looked_37 : decode cX7_looked 37 = .ok (.ifCond .eq 27, 3) := by decide +kernel
theorem dX7_looked_40 : decode cX7_looked 40 = .ok (.aload_n 0, 1) := by decide +kernel
theorem dX7_looked_41 : decode cX7_looked 41 = .ok (.getfield 25, 3) := by decide +kernel
theorem dX7_looked_44 : decode cX7_looked 44 = .ok (.getfield 84, 3) := by decide +kernel
theorem dX7_looked_47 : decode cX7_looked 47 = .ok (.iload_n 2, 1) := by decide +kernel
theorem dX7_looked_48 : decode cX7_looked 48 = .ok (.iaload, 1) := by decide +kernel
theorem dX7_looked_49 : decode cX7_looked 49 = .ok (.aload_n 0, 1) := by decide +kernel
theorem dX7_looked_50 : decode cX7_looked 50 = .ok (.getfield 12, 3) := by decide +kernel
theorem dX7_looked_53 : decode cX7_looked 53 = .ok (.getfield 214, 3) := by decide +kernel
theorem dX7_looked_56 : decode cX7_looked 56 = .ok (.getfield 207, 3) := by decide +kernel
theorem dX7_looked_59 : decode cX7_looked 59 = .ok (.iload_n 1, 1) := by decide +kernel
theorem dX7_looked_60 : decode cX7_looked 60 = .ok (.iaload, 1) := by decide +kernel
theorem dX7_looked_61 : decode cX7_looked 61 = .ok (.if_icmp .eq 5, 3) := by decide +kernel
theorem dX7_looked_64 : decode cX7_looked 64 = .ok (.iload_n 1, 1) := by decide +kernel
theorem dX7_looked_65 : decode cX7_looked 65 = .ok (.ireturn, 1) := by decide +kernel
theorem dX7_looked_66 : decode cX7_looked 66 = .ok (.iinc 1 1, 3) := by decide +kernel
theorem dX7_looked_69 : decode cX7_looked 69 = .ok (.goto (-67), 3) := by decide +kernel
theorem dX7_looked_72 : decode cX7_looked 72 = .ok (.bipush (-5), 2) := by decide +kernel
theorem dX7_looked_74 : decode cX7_looked 74 = .ok (.ireturn, 1) := by decide +kernel
theorem dX7_judge_0 : decode cX7_judge 0 = .ok (.aload_n 0, 1) := by decide +kernel
