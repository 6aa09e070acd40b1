/-! the law: its cases -/
set_option maxRecDepth 10000 in
set_option maxHeartbeats 4000000 in
theorem lw_person {w : wc_T} {κ : cx_T} {d B j : Nat} {Φ : Option Value → hp_T → Prop} (X : CX w κ (d + 31) 9 code 4 ret Φ) (hκ : k_1 κ = (135, 3491)) (hj : 6 * j + 6 ≤ w.2.2.2.2.2.1) (hN : w.2.2.2.2.2.1 ≤ 3072) (hB : B ≤ 9000) {h : hp_T} (I : Inv B 2852 h) (next : ∀ h1, Inv (B + 2) 2852 h1 → GG w κ 1327 [some (.ref 0), some (.ref 23), some (.ref 80), some (.int (nI (6 * j)))] [] h1) : GG w κ 200 [some (.ref 0), some (.ref 23), some (.ref 80), some (.int (nI (6 * j)))] [] h := by
  obtain ⟨σ, R, m, O, hs⟩ := I
  have C := R.C
  show GG w κ _ _ _ (wi h (h_i h))
  refine r_aload_n (pc := 200) X dLaw_200 rfl ?_
  refine r_aload_n (pc := 201) X dLaw_201 rfl ?_
  refine r_iload_n (pc := 202) X dLaw_202 rfl ?_
  refine r_iconst (pc := 203) (v := (nI 1)) X dLaw_203 (by decide) ?_
  refine r_iadd (pc := 204) X dLaw_204 ?_
  refine r_sld (pc := 205) X dLaw_205 (nI_add _ _) (by omega) (by omega) ?_
  refine r_aload_n (pc := 206) X dLaw_206 rfl ?_
  refine r_iload_n (pc := 207) X dLaw_207 rfl ?_
  refine r_iconst (pc := 208) (v := (nI 2)) X dLaw_208 (by decide) ?_
  refine r_iadd (pc := 209) X dLaw_209 ?_
  refine r_sld (pc := 210) X dLaw_210 (nI_add _ _) (by omega) (by omega) ?_
  refine r_aload_n (pc := 211) X dLaw_211 rfl ?_
  refine r_iload_n (pc := 212) X dLaw_212 rfl ?_
  refine r_iconst (pc := 213) (v := (nI 3)) X dLaw_213 (by decide) ?_
  refine r_iadd (pc := 214) X dLaw_214 ?_
  refine r_sld (pc := 215) X dLaw_215 (nI_add _ _) (by omega) (by omega) ?_
  refine r_aload_n (pc := 216) X dLaw_216 rfl ?_
  refine r_iload_n (pc := 217) X dLaw_217 rfl ?_
  refine r_iconst (pc := 218) (v := (nI 4)) X dLaw_218 (by decide) ?_
  refine r_iadd (pc := 219) X dLaw_219 ?_
  refine r_sld (pc := 220) X dLaw_220 (nI_add _ _) (by omega) (by omega) ?_
  refine r_c0_4G (pc := 221) X rfl dLaw_221 tc_9_13 mm_X7_person (kc_23 C) rfl rfl (k_person (d + 22) _ _ _ _ R O) (Nat.le_of_ble_eq_true rfl) (fun v1 h1 q1 => ?_)
  obtain ⟨rfl, g, M1, rfl, R1, m1, e1⟩ := lw_c1 q1 m
  have C1 := R1.C
  have hs1 : 2 * h_s g + 103 * 123 ≤ 2 * 2852 + 103 * h_n g := by
    have a1 : h_n g = h_n h := congrArg Prod.fst e1
    have a2 : h_s g = h_s h := congrArg Prod.snd e1
    omega
  show GG w κ _ _ (Value.int _ :: []) _
  refine r_aload_n (pc := 224) X dLaw_224 rfl ?_
  refine r_aload_n (pc := 225) X dLaw_225 rfl ?_
  refine r_iload_n (pc := 226) X dLaw_226 rfl ?_
  refine r_iconst (pc := 227) (v := (nI 1)) X dLaw_227 (by decide) ?_
  refine r_iadd (pc := 228) X dLaw_228 ?_
  refine r_sld (pc := 229) X dLaw_229 (nI_add _ _) (by omega) (by omega) ?_
  refine r_aload_n (pc := 230) X dLaw_230 rfl ?_
  refine r_iload_n (pc := 231) X dLaw_231 rfl ?_
  refine r_iconst (pc := 232) (v := (nI 2)) X dLaw_232 (by decide) ?_
  refine r_iadd (pc := 233) X dLaw_233 ?_
  refine r_sld (pc := 234) X dLaw_234 (nI_add _ _) (by omega) (by omega) ?_
  refine r_aload_n (pc := 235) X dLaw_235 rfl ?_
  refine r_iload_n (pc := 236) X dLaw_236 rfl ?_
  refine r_iconst (pc := 237) (v := (nI 3)) X dLaw_237 (by decide) ?_
  refine r_iadd (pc := 238) X dLaw_238 ?_
  refine r_sld (pc := 239) X dLaw_239 (nI_add _ _) (by omega) (by omega) ?_
  refine r_aload_n (pc := 240) X dLaw_240 rfl ?_
  refine r_iload_n (pc := 241) X dLaw_241 rfl ?_
  refine r_iconst (pc := 242) (v := (nI 4)) X dLaw_242 (by decide) ?_
  refine r_iadd (pc := 243) X dLaw_243 ?_
  refine r_sld (pc := 244) X dLaw_244 (nI_add _ _) (by omega) (by omega) ?_
  refine r_c0_4G (pc := 245) X rfl dLaw_245 tc_9_17 mm_X8_person (kc_80 C1) rfl rfl (n_person (d + 21) _ _ _ _ C1 m1 O) (Nat.le_of_ble_eq_true rfl) (fun v2 h2 q2 => ?_)
  obtain ⟨rfl, I2⟩ := lw_c2 (B := B + 2) (S := 2852) R1 q2 (o_person _ _ _ _ O (by omega)) hs1
  show GG w κ _ _ (Value.int _ :: Value.int _ :: []) _
  exact r_icmp_eq (pc := 248) X dLaw_248 (tgt := 1327) (by decide) (fun _ => next _ I2) (fun c => absurd rfl c)
set_option maxRecDepth 10000 in
set_option maxHeartbeats 4000000 in
theorem lw_of {w : wc_T} {κ : cx_T} {d B j : Nat} {Φ : Option Value → hp_T → Prop} (X : CX w κ (d + 31) 9 code 4 ret Φ) (hκ : k_1 κ = (135, 3491)) (hj : 6 * j + 6 ≤ w.2.2.2.2.2.1) (hN : w.2.2.2.2.2.1 ≤ 3072) (hB : B ≤ 9000) {h : hp_T} (I : Inv B 2852 h) (next : ∀ h1, Inv (B + 2) 2852 h1 → GG w κ 1327 [some (.ref 0), some (.ref 23), some (.ref 80), some (.int (nI (6 * j)))] [] h1) : GG w κ 253 [some (.ref 0), some (.ref 23), some (.ref 80), some (.int (nI (6 * j)))] [] h := by
  obtain ⟨σ, R, m, O, hs⟩ := I
  have C := R.C
  show GG w κ _ _ _ (wi h (h_i h))
  refine r_aload_n (pc := 253) X dLaw_253 rfl ?_
  refine r_aload_n (pc := 254) X dLaw_254 rfl ?_
  refine r_iload_n (pc := 255) X dLaw_255 rfl ?_
  refine r_iconst (pc := 256) (v := (nI 1)) X dLaw_256 (by decide) ?_
  refine r_iadd (pc := 257) X dLaw_257 ?_
  refine r_sld (pc := 258) X dLaw_258 (nI_add _ _) (by omega) (by omega) ?_
  refine r_aload_n (pc := 259) X dLaw_259 rfl ?_
  refine r_iload_n (pc := 260) X dLaw_260 rfl ?_
  refine r_iconst (pc := 261) (v := (nI 2)) X dLaw_261 (by decide) ?_
  refine r_iadd (pc := 262) X dLaw_262 ?_
  refine r_sld (pc := 263) X dLaw_263 (nI_add _ _) (by omega) (by omega) ?_
  refine r_c0_2G (pc := 264) X rfl dLaw_264 tc_9_18 mm_X7_of (kc_23 C) rfl rfl (k_of (d + 22) _ _ R O) (Nat.le_of_ble_eq_true rfl) (fun v1 h1 q1 => ?_)
  obtain ⟨rfl, g, M1, rfl, R1, m1, e1⟩ := lw_c1 q1 m
  have C1 := R1.C
  have hs1 : 2 * h_s g + 103 * 123 ≤ 2 * 2852 + 103 * h_n g := by
    have a1 : h_n g = h_n h := congrArg Prod.fst e1
    have a2 : h_s g = h_s h := congrArg Prod.snd e1
    omega
  show GG w κ _ _ (Value.int _ :: []) _
  refine r_aload_n (pc := 267) X dLaw_267 rfl ?_
  refine r_aload_n (pc := 268) X dLaw_268 rfl ?_
  refine r_iload_n (pc := 269) X dLaw_269 rfl ?_
  refine r_iconst (pc := 270) (v := (nI 1)) X dLaw_270 (by decide) ?_
  refine r_iadd (pc := 271) X dLaw_271 ?_
  refine r_sld (pc := 272) X dLaw_272 (nI_add _ _) (by omega) (by omega) ?_
  refine r_aload_n (pc := 273) X dLaw_273 rfl ?_
  refine r_iload_n (pc := 274) X dLaw_274 rfl ?_
  refine r_iconst (pc := 275) (v := (nI 2)) X dLaw_275 (by decide) ?_
  refine r_iadd (pc := 276) X dLaw_276 ?_
  refine r_sld (pc := 277) X dLaw_277 (nI_add _ _) (by omega) (by omega) ?_
  refine r_c0_2G (pc := 278) X rfl dLaw_278 tc_9_22 mm_X8_of (kc_80 C1) rfl rfl (n_of (d + 21) _ _ C1 m1 O) (Nat.le_of_ble_eq_true rfl) (fun v2 h2 q2 => ?_)
  obtain ⟨rfl, I2⟩ := lw_c2 (B := B + 2) (S := 2852) R1 q2 (o_of _ _ O (by omega)) hs1
  show GG w κ _ _ (Value.int _ :: Value.int _ :: []) _
  exact r_icmp_eq (pc := 281) X dLaw_281 (tgt := 1327) (by decide) (fun _ => next _ I2) (fun c => absurd rfl c)
set_option maxRecDepth 10000 in
set_option maxHeartbeats 4000000 in
theorem lw_set {w : wc_T} {κ : cx_T} {d B j : Nat} {Φ : Option Value → hp_T → Prop} (X : CX w κ (d + 31) 9 code 4 ret Φ) (hκ : k_1 κ = (135, 3491)) (hj : 6 * j + 6 ≤ w.2.2.2.2.2.1) (hN : w.2.2.2.2.2.1 ≤ 3072) (hB : B ≤ 9000) {h : hp_T} (I : Inv B 2852 h) (next : ∀ h1, Inv (B + 2) 2852 h1 → GG w κ 1327 [some (.ref 0), some (.ref 23), some (.ref 80), some (.int (nI (6 * j)))] [] h1) : GG w κ 286 [some (.ref 0), some (.ref 23), some (.ref 80), some (.int (nI (6 * j)))] [] h := by
  obtain ⟨σ, R, m, O, hs⟩ := I
  have C := R.C
  show GG w κ _ _ _ (wi h (h_i h))
  refine r_aload_n (pc := 286) X dLaw_286 rfl ?_
  refine r_aload_n (pc := 287) X dLaw_287 rfl ?_
  refine r_iload_n (pc := 288) X dLaw_288 rfl ?_
  refine r_iconst (pc := 289) (v := (nI 1)) X dLaw_289 (by decide) ?_
  refine r_iadd (pc := 290) X dLaw_290 ?_
  refine r_sld (pc := 291) X dLaw_291 (nI_add _ _) (by omega) (by omega) ?_
  refine r_aload_n (pc := 292) X dLaw_292 rfl ?_
  refine r_iload_n (pc := 293) X dLaw_293 rfl ?_
  refine r_iconst (pc := 294) (v := (nI 2)) X dLaw_294 (by decide) ?_
  refine r_iadd (pc := 295) X dLaw_295 ?_
  refine r_sld (pc := 296) X dLaw_296 (nI_add _ _) (by omega) (by omega) ?_
  refine r_aload_n (pc := 297) X dLaw_297 rfl ?_
  refine r_iload_n (pc := 298) X dLaw_298 rfl ?_
  refine r_iconst (pc := 299) (v := (nI 3)) X dLaw_299 (by decide) ?_
  refine r_iadd (pc := 300) X dLaw_300 ?_
  refine r_sld (pc := 301) X dLaw_301 (nI_add _ _) (by omega) (by omega) ?_
  refine r_c0_3G (pc := 302) X rfl dLaw_302 tc_9_23 mm_X7_set (kc_23 C) rfl rfl (k_set (d + 22) _ _ _ R O) (Nat.le_of_ble_eq_true rfl) (fun v1 h1 q1 => ?_)
  obtain ⟨rfl, g, M1, rfl, R1, m1, e1⟩ := lw_c1 q1 m
  have C1 := R1.C
  have hs1 : 2 * h_s g + 103 * 123 ≤ 2 * 2852 + 103 * h_n g := by
    have a1 : h_n g = h_n h := congrArg Prod.fst e1
    have a2 : h_s g = h_s h := congrArg Prod.snd e1
    omega
  show GG w κ _ _ (Value.int _ :: []) _
  refine r_aload_n (pc := 305) X dLaw_305 rfl ?_
  refine r_aload_n (pc := 306) X dLaw_306 rfl ?_
  refine r_iload_n (pc := 307) X dLaw_307 rfl ?_
  refine r_iconst (pc := 308) (v := (nI 1)) X dLaw_308 (by decide) ?_
  refine r_iadd (pc := 309) X dLaw_309 ?_
  refine r_sld (pc := 310) X dLaw_310 (nI_add _ _) (by omega) (by omega) ?_
  refine r_aload_n (pc := 311) X dLaw_311 rfl ?_
  refine r_iload_n (pc := 312) X dLaw_312 rfl ?_
  refine r_iconst (pc := 313) (v := (nI 2)) X dLaw_313 (by decide) ?_
  refine r_iadd (pc := 314) X dLaw_314 ?_
  refine r_sld (pc := 315) X dLaw_315 (nI_add _ _) (by omega) (by omega) ?_
  refine r_aload_n (pc := 316) X dLaw_316 rfl ?_
  refine r_iload_n (pc := 317) X dLaw_317 rfl ?_
  refine r_iconst (pc := 318) (v := (nI 3)) X dLaw_318 (by decide) ?_
  refine r_iadd (pc := 319) X dLaw_319 ?_
  refine r_sld (pc := 320) X dLaw_320 (nI_add _ _) (by omega) (by omega) ?_
  refine r_c0_3G (pc := 321) X rfl dLaw_321 tc_9_27 mm_X8_set (kc_80 C1) rfl rfl (n_set (d + 21) _ _ _ C1 m1 O) (Nat.le_of_ble_eq_true rfl) (fun v2 h2 q2 => ?_)
  obtain ⟨rfl, I2⟩ := lw_c2 (B := B + 2) (S := 2852) R1 q2 (o_set _ _ _ O (by omega)) hs1
  show GG w κ _ _ (Value.int _ :: Value.int _ :: []) _
  exact r_icmp_eq (pc := 324) X dLaw_324 (tgt := 1327) (by decide) (fun _ => next _ I2) (fun c => absurd rfl c)
set_option maxRecDepth 10000 in
set_option maxHeartbeats 4000000 in
theorem lw_row {w : wc_T} {κ : cx_T} {d B j : Nat} {Φ : Option Value → hp_T → Prop} (X : CX w κ (d + 31) 9 code 4 ret Φ) (hκ : k_1 κ = (135, 3491)) (hj : 6 * j + 6 ≤ w.2.2.2.2.2.1) (hN : w.2.2.2.2.2.1 ≤ 3072) (hB : B ≤ 9000) {h : hp_T} (I : Inv B 2852 h) (next : ∀ h1, Inv (B + 2) 2852 h1 → GG w κ 1327 [some (.ref 0), some (.ref 23), some (.ref 80), some (.int (nI (6 * j)))] [] h1) : GG w κ 329 [some (.ref 0), some (.ref 23), some (.ref 80), some (.int (nI (6 * j)))] [] h := by
  obtain ⟨σ, R, m, O, hs⟩ := I
  have C := R.C
  show GG w κ _ _ _ (wi h (h_i h))
  refine r_aload_n (pc := 329) X dLaw_329 rfl ?_
  refine r_aload_n (pc := 330) X dLaw_330 rfl ?_
  refine r_iload_n (pc := 331) X dLaw_331 rfl ?_
  refine r_iconst (pc := 332) (v := (nI 1)) X dLaw_332 (by decide) ?_
  refine r_iadd (pc := 333) X dLaw_333 ?_
  refine r_sld (pc := 334) X dLaw_334 (nI_add _ _) (by omega) (by omega) ?_
  refine r_aload_n (pc := 335) X dLaw_335 rfl ?_
  refine r_iload_n (pc := 336) X dLaw_336 rfl ?_
  refine r_iconst (pc := 337) (v := (nI 2)) X dLaw_337 (by decide) ?_
  refine r_iadd (pc := 338) X dLaw_338 ?_
  refine r_sld (pc := 339) X dLaw_339 (nI_add _ _) (by omega) (by omega) ?_
  refine r_aload_n (pc := 340) X dLaw_340 rfl ?_
  refine r_iload_n (pc := 341) X dLaw_341 rfl ?_
  refine r_iconst (pc := 342) (v := (nI 3)) X dLaw_342 (by decide) ?_
  refine r_iadd (pc := 343) X dLaw_343 ?_
  refine r_sld (pc := 344) X dLaw_344 (nI_add _ _) (by omega) (by omega) ?_
  refine r_c0_3G (pc := 345) X rfl dLaw_345 tc_9_28 mm_X7_row (kc_23 C) rfl rfl (k_row (d + 22) _ _ _ R O) (Nat.le_of_ble_eq_true rfl) (fun v1 h1 q1 => ?_)
  obtain ⟨rfl, g, M1, rfl, R1, m1, e1⟩ := lw_c1 q1 m
  have C1 := R1.C
  have hs1 : 2 * h_s g + 103 * 123 ≤ 2 * 2852 + 103 * h_n g := by
    have a1 : h_n g = h_n h := congrArg Prod.fst e1
    have a2 : h_s g = h_s h := congrArg Prod.snd e1
    omega
  show GG w κ _ _ (Value.int _ :: []) _
  refine r_aload_n (pc := 348) X dLaw_348 rfl ?_
  refine r_aload_n (pc := 349) X dLaw_349 rfl ?_
  refine r_iload_n (pc := 350) X dLaw_350 rfl ?_
  refine r_iconst (pc := 351) (v := (nI 1)) X dLaw_351 (by decide) ?_
  refine r_iadd (pc := 352) X dLaw_352 ?_
  refine r_sld (pc := 353) X dLaw_353 (nI_add _ _) (by omega) (by omega) ?_
  refine r_aload_n (pc := 354) X dLaw_354 rfl ?_
  refine r_iload_n (pc := 355) X dLaw_355 rfl ?_
  refine r_iconst (pc := 356) (v := (nI 2)) X dLaw_356 (by decide) ?_
  refine r_iadd (pc := 357) X dLaw_357 ?_
  refine r_sld (pc := 358) X dLaw_358 (nI_add _ _) (by omega) (by omega) ?_
  refine r_aload_n (pc := 359) X dLaw_359 rfl ?_
  refine r_iload_n (pc := 360) X dLaw_360 rfl ?_
  refine r_iconst (pc := 361) (v := (nI 3)) X dLaw_361 (by decide) ?_
  refine r_iadd (pc := 362) X dLaw_362 ?_
  refine r_sld (pc := 363) X dLaw_363 (nI_add _ _) (by omega) (by omega) ?_
  refine r_c0_3G (pc := 364) X rfl dLaw_364 tc_9_31 mm_X8_row (kc_80 C1) rfl rfl (n_row (d + 21) _ _ _ C1 m1 O) (Nat.le_of_ble_eq_true rfl) (fun v2 h2 q2 => ?_)
  obtain ⟨rfl, I2⟩ := lw_c2 (B := B + 2) (S := 2852) R1 q2 (o_row _ _ _ O (by omega)) hs1
  show GG w κ _ _ (Value.int _ :: Value.int _ :: []) _
  exact r_icmp_eq (pc := 367) X dLaw_367 (tgt := 1327) (by decide) (fun _ => next _ I2) (fun c => absurd rfl c)
set_option maxRecDepth 10000 in
set_option maxHeartbeats 4000000 in
theorem lw_with {w : wc_T} {κ : cx_T} {d B j : Nat} {Φ : Option Value → hp_T → Prop} (X : CX w κ (d + 31) 9 code 4 ret Φ) (hκ : k_1 κ = (135, 3491)) (hj : 6 * j + 6 ≤ w.2.2.2.2.2.1) (hN : w.2.2.2.2.2.1 ≤ 3072) (hB : B ≤ 9000) {h : hp_T} (I : Inv B 2852 h) (next : ∀ h1, Inv (B + 2) 2852 h1 → GG w κ 1327 [some (.ref 0), some (.ref 23), some (.ref 80), some (.int (nI (6 * j)))] [] h1) : GG w κ 372 [some (.ref 0), some (.ref 23), some (.ref 80), some (.int (nI (6 * j)))] [] h := by
  obtain ⟨σ, R, m, O, hs⟩ := I
  have C := R.C
  show GG w κ _ _ _ (wi h (h_i h))
  refine r_aload_n (pc := 372) X dLaw_372 rfl ?_
  refine r_aload_n (pc := 373) X dLaw_373 rfl ?_
  refine r_iload_n (pc := 374) X dLaw_374 rfl ?_
  refine r_iconst (pc := 375) (v := (nI 1)) X dLaw_375 (by decide) ?_
  refine r_iadd (pc := 376) X dLaw_376 ?_
  refine r_sld (pc := 377) X dLaw_377 (nI_add _ _) (by omega) (by omega) ?_
  refine r_c0_1G (pc := 378) X rfl dLaw_378 tc_9_32 mm_X7_with (kc_23 C) rfl rfl (k_with (d + 22) _ R O) (Nat.le_of_ble_eq_true rfl) (fun v1 h1 q1 => ?_)
  obtain ⟨rfl, g, M1, rfl, R1, m1, e1⟩ := lw_c1 q1 m
  have C1 := R1.C
  have hs1 : 2 * h_s g + 103 * 123 ≤ 2 * 2852 + 103 * h_n g := by
    have a1 : h_n g = h_n h := congrArg Prod.fst e1
    have a2 : h_s g = h_s h := congrArg Prod.snd e1
    omega
  show GG w κ _ _ (Value.int _ :: []) _
  refine r_aload_n (pc := 381) X dLaw_381 rfl ?_
  refine r_aload_n (pc := 382) X dLaw_382 rfl ?_
  refine r_iload_n (pc := 383) X dLaw_383 rfl ?_
  refine r_iconst (pc := 384) (v := (nI 1)) X dLaw_384 (by decide) ?_
  refine r_iadd (pc := 385) X dLaw_385 ?_
  refine r_sld (pc := 386) X dLaw_386 (nI_add _ _) (by omega) (by omega) ?_
  refine r_c0_1G (pc := 387) X rfl dLaw_387 tc_9_36 mm_X8_with (kc_80 C1) rfl rfl (n_with (d + 21) _ C1 m1 O) (Nat.le_of_ble_eq_true rfl) (fun v2 h2 q2 => ?_)
  obtain ⟨rfl, I2⟩ := lw_c2 (B := B + 2) (S := 2852) R1 q2 (o_with _ O (by omega)) hs1
  show GG w κ _ _ (Value.int _ :: Value.int _ :: []) _
  exact r_icmp_eq (pc := 390) X dLaw_390 (tgt := 1327) (by decide) (fun _ => next _ I2) (fun c => absurd rfl c)
set_option maxRecDepth 10000 in
set_option maxHeartbeats 4000000 in
theorem lw_weight {w : wc_T} {κ : cx_T} {d B j : Nat} {Φ : Option Value → hp_T → Prop} (X : CX w κ (d + 31) 9 code 4 ret Φ) (hκ : k_1 κ = (135, 3491)) (hj : 6 * j + 6 ≤ w.2.2.2.2.2.1) (hN : w.2.2.2.2.2.1 ≤ 3072) (hB : B ≤ 9000) {h : hp_T} (I : Inv B 2852 h) (next : ∀ h1, Inv (B + 2) 2852 h1 → GG w κ 1327 [some (.ref 0), some (.ref 23), some (.ref 80), some (.int (nI (6 * j)))] [] h1) : GG w κ 395 [some (.ref 0), some (.ref 23), some (.ref 80), some (.int (nI (6 * j)))] [] h := by
  obtain ⟨σ, R, m, O, hs⟩ := I
  have C := R.C
  show GG w κ _ _ _ (wi h (h_i h))
  refine r_aload_n (pc := 395) X dLaw_395 rfl ?_
  refine r_aload_n (pc := 396) X dLaw_396 rfl ?_
  refine r_iload_n (pc := 397) X dLaw_397 rfl ?_
  refine r_iconst (pc := 398) (v := (nI 1)) X dLaw_398 (by decide) ?_
  refine r_iadd (pc := 399) X dLaw_399 ?_
  refine r_sld (pc := 400) X dLaw_400 (nI_add _ _) (by omega) (by omega) ?_
  refine r_c0_1G (pc := 401) X rfl dLaw_401 tc_9_37 mm_X7_weight (kc_23 C) rfl rfl (k_weight (d + 22) _ R O) (Nat.le_of_ble_eq_true rfl) (fun v1 h1 q1 => ?_)
  obtain ⟨rfl, g, M1, rfl, R1, m1, e1⟩ := lw_c1 q1 m
  have C1 := R1.C
  have hs1 : 2 * h_s g + 103 * 123 ≤ 2 * 2852 + 103 * h_n g := by
    have a1 : h_n g = h_n h := congrArg Prod.fst e1
    have a2 : h_s g = h_s h := congrArg Prod.snd e1
    omega
  show GG w κ _ _ (Value.int _ :: []) _
  refine r_aload_n (pc := 404) X dLaw_404 rfl ?_
  refine r_aload_n (pc := 405) X dLaw_405 rfl ?_
  refine r_iload_n (pc := 406) X dLaw_406 rfl ?_
  refine r_iconst (pc := 407) (v := (nI 1)) X dLaw_407 (by decide) ?_
  refine r_iadd (pc := 408) X dLaw_408 ?_
  refine r_sld (pc := 409) X dLaw_409 (nI_add _ _) (by omega) (by omega) ?_
  refine r_c0_1G (pc := 410) X rfl dLaw_410 tc_9_40 mm_X8_weight (kc_80 C1) rfl rfl (n_weight (d + 21) _ C1 m1 O) (Nat.le_of_ble_eq_true rfl) (fun v2 h2 q2 => ?_)
  obtain ⟨rfl, I2⟩ := lw_c2 (B := B + 2) (S := 2852) R1 q2 (o_weight _ O (by omega)) hs1
  show GG w κ _ _ (Value.int _ :: Value.int _ :: []) _
  exact r_icmp_eq (pc := 413) X dLaw_413 (tgt := 1327) (by decide) (fun _ => next _ I2) (fun c => absurd rfl c)
set_option maxRecDepth 10000 in
set_option maxHeartbeats 4000000 in
theorem lw_feed {w : wc_T} {κ : cx_T} {d B j : Nat} {Φ : Option Value → hp_T → Prop} (X : CX w κ (d + 31) 9 code 4 ret Φ) (hκ : k_1 κ = (135, 3491)) (hj : 6 * j + 6 ≤ w.2.2.2.2.2.1) (hN : w.2.2.2.2.2.1 ≤ 3072) (hB : B ≤ 9000) {h : hp_T} (I : Inv B 2852 h) (next : ∀ h1, Inv (B + 2) 2852 h1 → GG w κ 1327 [some (.ref 0), some (.ref 23), some (.ref 80), some (.int (nI (6 * j)))] [] h1) : GG w κ 418 [some (.ref 0), some (.ref 23), some (.ref 80), some (.int (nI (6 * j)))] [] h := by
  obtain ⟨σ, R, m, O, hs⟩ := I
  have C := R.C
  show GG w κ _ _ _ (wi h (h_i h))
  refine r_aload_n (pc := 418) X dLaw_418 rfl ?_
  refine r_aload_n (pc := 419) X dLaw_419 rfl ?_
  refine r_iload_n (pc := 420) X dLaw_420 rfl ?_
  refine r_iconst (pc := 421) (v := (nI 1)) X dLaw_421 (by decide) ?_
  refine r_iadd (pc := 422) X dLaw_422 ?_
  refine r_sld (pc := 423) X dLaw_423 (nI_add _ _) (by omega) (by omega) ?_
  refine r_c0_1G (pc := 424) X rfl dLaw_424 tc_9_41 mm_X7_feed (kc_23 C) rfl rfl (k_feed (d + 22) _ R O) (Nat.le_of_ble_eq_true rfl) (fun v1 h1 q1 => ?_)
  obtain ⟨rfl, g, M1, rfl, R1, m1, e1⟩ := lw_c1 q1 m
  have C1 := R1.C
  have hs1 : 2 * h_s g + 103 * 123 ≤ 2 * 2852 + 103 * h_n g := by
    have a1 : h_n g = h_n h := congrArg Prod.fst e1
    have a2 : h_s g = h_s h := congrArg Prod.snd e1
    omega
  show GG w κ _ _ (Value.int _ :: []) _
  refine r_aload_n (pc := 427) X dLaw_427 rfl ?_
  refine r_aload_n (pc := 428) X dLaw_428 rfl ?_
  refine r_iload_n (pc := 429) X dLaw_429 rfl ?_
  refine r_iconst (pc := 430) (v := (nI 1)) X dLaw_430 (by decide) ?_
  refine r_iadd (pc := 431) X dLaw_431 ?_
  refine r_sld (pc := 432) X dLaw_432 (nI_add _ _) (by omega) (by omega) ?_
  refine r_c0_1G (pc := 433) X rfl dLaw_433 tc_9_44 mm_X8_feed (kc_80 C1) rfl rfl (n_feed (d + 21) _ C1 m1 O) (Nat.le_of_ble_eq_true rfl) (fun v2 h2 q2 => ?_)
  obtain ⟨rfl, I2⟩ := lw_c2 (B := B + 2) (S := 2852) R1 q2 (o_feed _ O (by omega)) hs1
  show GG w κ _ _ (Value.int _ :: Value.int _ :: []) _
  exact r_icmp_eq (pc := 436) X dLaw_436 (tgt := 1327) (by decide) (fun _ => next _ I2) (fun c => absurd rfl c)
set_option maxRecDepth 10000 in
set_option maxHeartbeats 4000000 in
theorem lw_told {w : wc_T} {κ : cx_T} {d B j : Nat} {Φ : Option Value → hp_T → Prop} (X : CX w κ (d + 31) 9 code 4 ret Φ) (hκ : k_1 κ = (135, 3491)) (hj : 6 * j + 6 ≤ w.2.2.2.2.2.1) (hN : w.2.2.2.2.2.1 ≤ 3072) (hB : B ≤ 9000) {h : hp_T} (I : Inv B 2852 h) (next : ∀ h1, Inv (B + 2) 2852 h1 → GG w κ 1327 [some (.ref 0), some (.ref 23), some (.ref 80), some (.int (nI (6 * j)))] [] h1) : GG w κ 454 [some (.ref 0), some (.ref 23), some (.ref 80), some (.int (nI (6 * j)))] [] h := by
  obtain ⟨σ, R, m, O, hs⟩ := I
  have C := R.C
  show GG w κ _ _ _ (wi h (h_i h))
  refine r_aload_n (pc := 454) X dLaw_454 rfl ?_
  refine r_aload_n (pc := 455) X dLaw_455 rfl ?_
  refine r_iload_n (pc := 456) X dLaw_456 rfl ?_
  refine r_iconst (pc := 457) (v := (nI 1)) X dLaw_457 (by decide) ?_
  refine r_iadd (pc := 458) X dLaw_458 ?_
  refine r_sld (pc := 459) X dLaw_459 (nI_add _ _) (by omega) (by omega) ?_
  refine r_c0_1G (pc := 460) X rfl dLaw_460 tc_9_50 mm_X7_told (kc_23 C) rfl rfl (k_told (d + 22) _ R O) (Nat.le_of_ble_eq_true rfl) (fun v1 h1 q1 => ?_)
  obtain ⟨rfl, g, M1, rfl, R1, m1, e1⟩ := lw_c1 q1 m
  have C1 := R1.C
  have hs1 : 2 * h_s g + 103 * 123 ≤ 2 * 2852 + 103 * h_n g := by
    have a1 : h_n g = h_n h := congrArg Prod.fst e1
    have a2 : h_s g = h_s h := congrArg Prod.snd e1
    omega
  show GG w κ _ _ (Value.int _ :: []) _
  refine r_aload_n (pc := 463) X dLaw_463 rfl ?_
  refine r_aload_n (pc := 464) X dLaw_464 rfl ?_
  refine r_iload_n (pc := 465) X dLaw_465 rfl ?_
  refine r_iconst (pc := 466) (v := (nI 1)) X dLaw_466 (by decide) ?_
  refine r_iadd (pc := 467) X dLaw_467 ?_
  refine r_sld (pc := 468) X dLaw_468 (nI_add _ _) (by omega) (by omega) ?_
  refine r_c0_1G (pc := 469) X rfl dLaw_469 tc_9_53 mm_X8_told (kc_80 C1) rfl rfl (n_told (d + 21) _ C1 m1 O) (Nat.le_of_ble_eq_true rfl) (fun v2 h2 q2 => ?_)
  obtain ⟨rfl, I2⟩ := lw_c2 (B := B + 2) (S := 2852) R1 q2 (o_told _ O (by omega)) hs1
  show GG w κ _ _ (Value.int _ :: Value.int _ :: []) _
  exact r_icmp_eq (pc := 472) X dLaw_472 (tgt := 1327) (by decide) (fun _ => next _ I2) (fun c => absurd rfl c)
set_option maxRecDepth 10000 in
set_option maxHeartbeats 4000000 in
theorem lw_step {w : wc_T} {κ : cx_T} {d B j : Nat} {Φ : Option Value → hp_T → Prop} (X : CX w κ (d + 31) 9 code 4 ret Φ) (hκ : k_1 κ = (135, 3491)) (hj : 6 * j + 6 ≤ w.2.2.2.2.2.1) (hN : w.2.2.2.2.2.1 ≤ 3072) (hB : B ≤ 9000) {h : hp_T} (I : Inv B 2852 h) (next : ∀ h1, Inv (B + 2) 2852 h1 → GG w κ 1327 [some (.ref 0), some (.ref 23), some (.ref 80), some (.int (nI (6 * j)))] [] h1) : GG w κ 477 [some (.ref 0), some (.ref 23), some (.ref 80), some (.int (nI (6 * j)))] [] h := by
  obtain ⟨σ, R, m, O, hs⟩ := I
  have C := R.C
  show GG w κ _ _ _ (wi h (h_i h))
  refine r_aload_n (pc := 477) X dLaw_477 rfl ?_
  refine r_c0_0G (pc := 478) X rfl dLaw_478 tc_9_54 mm_X7_step (kc_23 C) rfl rfl (k_step (d + 22) R O (by omega)) (Nat.le_of_ble_eq_true rfl) (fun v1 h1 q1 => ?_)
  obtain ⟨rfl, g, M1, rfl, R1, m1, e1⟩ := lw_c1 q1 m
  have C1 := R1.C
  have hs1 : 2 * h_s g + 103 * 123 ≤ 2 * 2852 + 103 * h_n g := by
    have a1 : h_n g = h_n h := congrArg Prod.fst e1
    have a2 : h_s g = h_s h := congrArg Prod.snd e1
    omega
  show GG w κ _ _ (Value.int _ :: []) _
  refine r_aload_n (pc := 481) X dLaw_481 rfl ?_
  refine r_c0_0G (pc := 482) X rfl dLaw_482 tc_9_57 mm_X8_step (kc_80 C1) rfl rfl (n_step (d + 21) C1 m1 O (by omega)) (Nat.le_of_ble_eq_true rfl) (fun v2 h2 q2 => ?_)
  obtain ⟨rfl, I2⟩ := lw_c2 (B := B + 2) (S := 2852) R1 q2 (o_step O (by omega)) hs1
  show GG w κ _ _ (Value.int _ :: Value.int _ :: []) _
  exact r_icmp_eq (pc := 485) X dLaw_485 (tgt := 1327) (by decide) (fun _ => next _ I2) (fun c => absurd rfl c)
set_option maxRecDepth 10000 in
set_option maxHeartbeats 4000000 in
theorem lw_on {w : wc_T} {κ : cx_T} {d B j : Nat} {Φ : Option Value → hp_T → Prop} (X : CX w κ (d + 31) 9 code 4 ret Φ) (hκ : k_1 κ = (135, 3491)) (hj : 6 * j + 6 ≤ w.2.2.2.2.2.1) (hN : w.2.2.2.2.2.1 ≤ 3072) (hB : B ≤ 9000) {h : hp_T} (I : Inv B 2852 h) (next : ∀ h1, Inv (B + 2) 2852 h1 → GG w κ 1327 [some (.ref 0), some (.ref 23), some (.ref 80), some (.int (nI (6 * j)))] [] h1) : GG w κ 490 [some (.ref 0), some (.ref 23), some (.ref 80), some (.int (nI (6 * j)))] [] h := by
  obtain ⟨σ, R, m, O, hs⟩ := I
  have C := R.C
  show GG w κ _ _ _ (wi h (h_i h))
  refine r_aload_n (pc := 490) X dLaw_490 rfl ?_
  refine r_aload_n (pc := 491) X dLaw_491 rfl ?_
  refine r_iload_n (pc := 492) X dLaw_492 rfl ?_
  refine r_iconst (pc := 493) (v := (nI 1)) X dLaw_493 (by decide) ?_
  refine r_iadd (pc := 494) X dLaw_494 ?_
  refine r_sld (pc := 495) X dLaw_495 (nI_add _ _) (by omega) (by omega) ?_
  refine r_aload_n (pc := 496) X dLaw_496 rfl ?_
  refine r_iload_n (pc := 497) X dLaw_497 rfl ?_
  refine r_iconst (pc := 498) (v := (nI 2)) X dLaw_498 (by decide) ?_
  refine r_iadd (pc := 499) X dLaw_499 ?_
  refine r_sld (pc := 500) X dLaw_500 (nI_add _ _) (by omega) (by omega) ?_
  refine r_c0_2G (pc := 501) X rfl dLaw_501 tc_9_58 mm_X7_on (kc_23 C) rfl rfl (k_on (d + 22) _ _ R O (by omega)) (Nat.le_of_ble_eq_true rfl) (fun v1 h1 q1 => ?_)
  obtain ⟨rfl, g, M1, rfl, R1, m1, e1⟩ := lw_c1 q1 m
  have C1 := R1.C
  have hs1 : 2 * h_s g + 103 * 123 ≤ 2 * 2852 + 103 * h_n g := by
    have a1 : h_n g = h_n h := congrArg Prod.fst e1
    have a2 : h_s g = h_s h := congrArg Prod.snd e1
    omega
  show GG w κ _ _ (Value.int _ :: []) _
  refine r_aload_n (pc := 504) X dLaw_504 rfl ?_
  refine r_aload_n (pc := 505) X dLaw_505 rfl ?_
  refine r_iload_n (pc := 506) X dLaw_506 rfl ?_
  refine r_iconst (pc := 507) (v := (nI 1)) X dLaw_507 (by decide) ?_
  refine r_iadd (pc := 508) X dLaw_508 ?_
  refine r_sld (pc := 509) X dLaw_509 (nI_add _ _) (by omega) (by omega) ?_
  refine r_aload_n (pc := 510) X dLaw_510 rfl ?_
  refine r_iload_n (pc := 511) X dLaw_511 rfl ?_
  refine r_iconst (pc := 512) (v := (nI 2)) X dLaw_512 (by decide) ?_
  refine r_iadd (pc := 513) X dLaw_513 ?_
  refine r_sld (pc := 514) X dLaw_514 (nI_add _ _) (by omega) (by omega) ?_
  refine r_c0_2G (pc := 515) X rfl dLaw_515 tc_9_61 mm_X8_on (kc_80 C1) rfl rfl (n_on (d + 21) _ _ C1 m1 O (by omega)) (Nat.le_of_ble_eq_true rfl) (fun v2 h2 q2 => ?_)
  obtain ⟨rfl, I2⟩ := lw_c2 (B := B + 2) (S := 2852) R1 q2 (o_on _ _ O (by omega)) hs1
  show GG w κ _ _ (Value.int _ :: Value.int _ :: []) _
  exact r_icmp_eq (pc := 518) X dLaw_518 (tgt := 1327) (by decide) (fun _ => next _ I2) (fun c => absurd rfl c)
set_option maxRecDepth 10000 in
set_option maxHeartbeats 4000000 in
theorem lw_ends {w : wc_T} {κ : cx_T} {d B j : Nat} {Φ : Option Value → hp_T → Prop} (X : CX w κ (d + 31) 9 code 4 ret Φ) (hκ : k_1 κ = (135, 3491)) (hj : 6 * j + 6 ≤ w.2.2.2.2.2.1) (hN : w.2.2.2.2.2.1 ≤ 3072) (hB : B ≤ 9000) {h : hp_T} (I : Inv B 2852 h) (next : ∀ h1, Inv (B + 2) 2852 h1 → GG w κ 1327 [some (.ref 0), some (.ref 23), some (.ref 80), some (.int (nI (6 * j)))] [] h1) : GG w κ 523 [some (.ref 0), some (.ref 23), some (.ref 80), some (.int (nI (6 * j)))] [] h := by
  obtain ⟨σ, R, m, O, hs⟩ := I
  have C := R.C
  show GG w κ _ _ _ (wi h (h_i h))
  refine r_aload_n (pc := 523) X dLaw_523 rfl ?_
  refine r_c0_0G (pc := 524) X rfl dLaw_524 tc_9_62 mm_X7_ends (kc_23 C) rfl rfl (k_ends (d + 22) R O (by omega)) (Nat.le_of_ble_eq_true rfl) (fun v1 h1 q1 => ?_)
  obtain ⟨rfl, g, M1, rfl, R1, m1, e1⟩ := lw_c1 q1 m
  have C1 := R1.C
  have hs1 : 2 * h_s g + 103 * 123 ≤ 2 * 2852 + 103 * h_n g := by
    have a1 : h_n g = h_n h := congrArg Prod.fst e1
    have a2 : h_s g = h_s h := congrArg Prod.snd e1
    omega
  show GG w κ _ _ (Value.int _ :: []) _
  refine r_aload_n (pc := 527) X dLaw_527 rfl ?_
  refine r_c0_0G (pc := 528) X rfl dLaw_528 tc_9_65 mm_X8_ends (kc_80 C1) rfl rfl (n_ends (d + 21) C1 m1 O (by omega)) (Nat.le_of_ble_eq_true rfl) (fun v2 h2 q2 => ?_)
  obtain ⟨rfl, I2⟩ := lw_c2 (B := B + 2) (S := 2852) R1 q2 (o_ends O (by omega)) hs1
  show GG w κ _ _ (Value.int _ :: Value.int _ :: []) _
  exact r_icmp_eq (pc := 531) X dLaw_531 (tgt := 1327) (by decide) (fun _ => next _ I2) (fun c => absurd rfl c)
set_option maxRecDepth 10000 in
set_option maxHeartbeats 4000000 in
theorem lw_longest {w : wc_T} {κ : cx_T} {d B j : Nat} {Φ : Option Value → hp_T → Prop} (X : CX w κ (d + 31) 9 code 4 ret Φ) (hκ : k_1 κ = (135, 3491)) (hj : 6 * j + 6 ≤ w.2.2.2.2.2.1) (hN : w.2.2.2.2.2.1 ≤ 3072) (hB : B ≤ 9000) {h : hp_T} (I : Inv B 2852 h) (next : ∀ h1, Inv (B + 2) 2852 h1 → GG w κ 1327 [some (.ref 0), some (.ref 23), some (.ref 80), some (.int (nI (6 * j)))] [] h1) : GG w κ 536 [some (.ref 0), some (.ref 23), some (.ref 80), some (.int (nI (6 * j)))] [] h := by
  obtain ⟨σ, R, m, O, hs⟩ := I
  have C := R.C
  show GG w κ _ _ _ (wi h (h_i h))
  refine r_aload_n (pc := 536) X dLaw_536 rfl ?_
  refine r_c0_0G (pc := 537) X rfl dLaw_537 tc_9_66 mm_X7_longest (kc_23 C) rfl rfl (k_longest (d + 22) R O (by omega)) (Nat.le_of_ble_eq_true rfl) (fun v1 h1 q1 => ?_)
  obtain ⟨rfl, g, M1, rfl, R1, m1, e1⟩ := lw_c1 q1 m
  have C1 := R1.C
  have hs1 : 2 * h_s g + 103 * 123 ≤ 2 * 2852 + 103 * h_n g := by
    have a1 : h_n g = h_n h := congrArg Prod.fst e1
    have a2 : h_s g = h_s h := congrArg Prod.snd e1
    omega
  show GG w κ _ _ (Value.int _ :: []) _
  refine r_aload_n (pc := 540) X dLaw_540 rfl ?_
  refine r_c0_0G (pc := 541) X rfl dLaw_541 tc_9_69 mm_X8_longest (kc_80 C1) rfl rfl (n_longest (d + 21) C1 m1 O (by omega)) (Nat.le_of_ble_eq_true rfl) (fun v2 h2 q2 => ?_)
  obtain ⟨rfl, I2⟩ := lw_c2 (B := B + 2) (S := 2852) R1 q2 (o_longest O (by omega)) hs1
  show GG w κ _ _ (Value.int _ :: Value.int _ :: []) _
  exact r_icmp_eq (pc := 544) X dLaw_544 (tgt := 1327) (by decide) (fun _ => next _ I2) (fun c => absurd rfl c)
set_option maxRecDepth 10000 in
set_option maxHeartbeats 4000000 in
theorem lw_stand {w : wc_T} {κ : cx_T} {d B j : Nat} {Φ : Option Value → hp_T → Prop} (X : CX w κ (d + 31) 9 code 4 ret Φ) (hκ : k_1 κ = (135, 3491)) (hj : 6 * j + 6 ≤ w.2.2.2.2.2.1) (hN : w.2.2.2.2.2.1 ≤ 3072) (hB : B ≤ 9000) {h : hp_T} (I : Inv B 2852 h) (next : ∀ h1, Inv (B + 2) 2852 h1 → GG w κ 1327 [some (.ref 0), some (.ref 23), some (.ref 80), some (.int (nI (6 * j)))] [] h1) : GG w κ 549 [some (.ref 0), some (.ref 23), some (.ref 80), some (.int (nI (6 * j)))] [] h := by
  obtain ⟨σ, R, m, O, hs⟩ := I
  have C := R.C
  show GG w κ _ _ _ (wi h (h_i h))
  refine r_aload_n (pc := 549) X dLaw_549 rfl ?_
  refine r_aload_n (pc := 550) X dLaw_550 rfl ?_
  refine r_iload_n (pc := 551) X dLaw_551 rfl ?_
  refine r_iconst (pc := 552) (v := (nI 1)) X dLaw_552 (by decide) ?_
  refine r_iadd (pc := 553) X dLaw_553 ?_
  refine r_sld (pc := 554) X dLaw_554 (nI_add _ _) (by omega) (by omega) ?_
  refine r_aload_n (pc := 555) X dLaw_555 rfl ?_
  refine r_iload_n (pc := 556) X dLaw_556 rfl ?_
  refine r_iconst (pc := 557) (v := (nI 2)) X dLaw_557 (by decide) ?_
  refine r_iadd (pc := 558) X dLaw_558 ?_
  refine r_sld (pc := 559) X dLaw_559 (nI_add _ _) (by omega) (by omega) ?_
  refine r_aload_n (pc := 560) X dLaw_560 rfl ?_
  refine r_iload_n (pc := 561) X dLaw_561 rfl ?_
  refine r_iconst (pc := 562) (v := (nI 3)) X dLaw_562 (by decide) ?_
  refine r_iadd (pc := 563) X dLaw_563 ?_
  refine r_sld (pc := 564) X dLaw_564 (nI_add _ _) (by omega) (by omega) ?_
  refine r_c0_3G (pc := 565) X rfl dLaw_565 tc_9_70 mm_X7_stand (kc_23 C) rfl rfl (k_stand (d + 22) _ _ _ R O (by omega)) (Nat.le_of_ble_eq_true rfl) (fun v1 h1 q1 => ?_)
  obtain ⟨rfl, g, M1, rfl, R1, m1, e1⟩ := lw_c1 q1 m
  have C1 := R1.C
  have hs1 : 2 * h_s g + 103 * 123 ≤ 2 * 2852 + 103 * h_n g := by
    have a1 : h_n g = h_n h := congrArg Prod.fst e1
    have a2 : h_s g = h_s h := congrArg Prod.snd e1
    omega
  show GG w κ _ _ (Value.int _ :: []) _
  refine r_aload_n (pc := 568) X dLaw_568 rfl ?_
  refine r_aload_n (pc := 569) X dLaw_569 rfl ?_
  refine r_iload_n (pc := 570) X dLaw_570 rfl ?_
  refine r_iconst (pc := 571) (v := (nI 1)) X dLaw_571 (by decide) ?_
  refine r_iadd (pc := 572) X dLaw_572 ?_
  refine r_sld (pc := 573) X dLaw_573 (nI_add _ _) (by omega) (by omega) ?_
  refine r_aload_n (pc := 574) X dLaw_574 rfl ?_
  refine r_iload_n (pc := 575) X dLaw_575 rfl ?_
  refine r_iconst (pc := 576) (v := (nI 2)) X dLaw_576 (by decide) ?_
  refine r_iadd (pc := 577) X dLaw_577 ?_
  refine r_sld (pc := 578) X dLaw_578 (nI_add _ _) (by omega) (by omega) ?_
  refine r_aload_n (pc := 579) X dLaw_579 rfl ?_
  refine r_iload_n (pc := 580) X dLaw_580 rfl ?_
  refine r_iconst (pc := 581) (v := (nI 3)) X dLaw_581 (by decide) ?_
  refine r_iadd (pc := 582) X dLaw_582 ?_
  refine r_sld (pc := 583) X dLaw_583 (nI_add _ _) (by omega) (by omega) ?_
  refine r_c0_3G (pc := 584) X rfl dLaw_584 tc_9_73 mm_X8_stand (kc_80 C1) rfl rfl (n_stand (d + 21) _ _ _ C1 m1 O (by omega)) (Nat.le_of_ble_eq_true rfl) (fun v2 h2 q2 => ?_)
  obtain ⟨rfl, I2⟩ := lw_c2 (B := B + 2) (S := 2852) R1 q2 (o_stand _ _ _ O (by omega)) hs1
  show GG w κ _ _ (Value.int _ :: Value.int _ :: []) _
  exact r_icmp_eq (pc := 587) X dLaw_587 (tgt := 1327) (by decide) (fun _ => next _ I2) (fun c => absurd rfl c)
set_option maxRecDepth 10000 in
set_option maxHeartbeats 4000000 in
theorem lw_needs {w : wc_T} {κ : cx_T} {d B j : Nat} {Φ : Option Value → hp_T → Prop} (X : CX w κ (d + 31) 9 code 4 ret Φ) (hκ : k_1 κ = (135, 3491)) (hj : 6 * j + 6 ≤ w.2.2.2.2.2.1) (hN : w.2.2.2.2.2.1 ≤ 3072) (hB : B ≤ 9000) {h : hp_T} (I : Inv B 2852 h) (next : ∀ h1, Inv (B + 2) 2852 h1 → GG w κ 1327 [some (.ref 0), some (.ref 23), some (.ref 80), some (.int (nI (6 * j)))] [] h1) : GG w κ 592 [some (.ref 0), some (.ref 23), some (.ref 80), some (.int (nI (6 * j)))] [] h := by
  obtain ⟨σ, R, m, O, hs⟩ := I
  have C := R.C
  show GG w κ _ _ _ (wi h (h_i h))
  refine r_aload_n (pc := 592) X dLaw_592 rfl ?_
  refine r_aload_n (pc := 593) X dLaw_593 rfl ?_
  refine r_iload_n (pc := 594) X dLaw_594 rfl ?_
  refine r_iconst (pc := 595) (v := (nI 1)) X dLaw_595 (by decide) ?_
  refine r_iadd (pc := 596) X dLaw_596 ?_
  refine r_sld (pc := 597) X dLaw_597 (nI_add _ _) (by omega) (by omega) ?_
  refine r_aload_n (pc := 598) X dLaw_598 rfl ?_
  refine r_iload_n (pc := 599) X dLaw_599 rfl ?_
  refine r_iconst (pc := 600) (v := (nI 2)) X dLaw_600 (by decide) ?_
  refine r_iadd (pc := 601) X dLaw_601 ?_
  refine r_sld (pc := 602) X dLaw_602 (nI_add _ _) (by omega) (by omega) ?_
  refine r_c0_2G (pc := 603) X rfl dLaw_603 tc_9_74 mm_X7_needs (kc_23 C) rfl rfl (k_needs (d + 22) _ _ R O (by omega)) (Nat.le_of_ble_eq_true rfl) (fun v1 h1 q1 => ?_)
  obtain ⟨rfl, g, M1, rfl, R1, m1, e1⟩ := lw_c1 q1 m
  have C1 := R1.C
  have hs1 : 2 * h_s g + 103 * 123 ≤ 2 * 2852 + 103 * h_n g := by
    have a1 : h_n g = h_n h := congrArg Prod.fst e1
    have a2 : h_s g = h_s h := congrArg Prod.snd e1
    omega
  show GG w κ _ _ (Value.int _ :: []) _
  refine r_aload_n (pc := 606) X dLaw_606 rfl ?_
  refine r_aload_n (pc := 607) X dLaw_607 rfl ?_
  refine r_iload_n (pc := 608) X dLaw_608 rfl ?_
  refine r_iconst (pc := 609) (v := (nI 1)) X dLaw_609 (by decide) ?_
  refine r_iadd (pc := 610) X dLaw_610 ?_
  refine r_sld (pc := 611) X dLaw_611 (nI_add _ _) (by omega) (by omega) ?_
  refine r_aload_n (pc := 612) X dLaw_612 rfl ?_
  refine r_iload_n (pc := 613) X dLaw_613 rfl ?_
  refine r_iconst (pc := 614) (v := (nI 2)) X dLaw_614 (by decide) ?_
  refine r_iadd (pc := 615) X dLaw_615 ?_
  refine r_sld (pc := 616) X dLaw_616 (nI_add _ _) (by omega) (by omega) ?_
  refine r_c0_2G (pc := 617) X rfl dLaw_617 tc_9_77 mm_X8_needs (kc_80 C1) rfl rfl (n_needs (d + 21) _ _ C1 m1 O (by omega)) (Nat.le_of_ble_eq_true rfl) (fun v2 h2 q2 => ?_)
  obtain ⟨rfl, I2⟩ := lw_c2 (B := B + 2) (S := 2852) R1 q2 (o_needs _ _ O (by omega)) hs1
  show GG w κ _ _ (Value.int _ :: Value.int _ :: []) _
  exact r_icmp_eq (pc := 620) X dLaw_620 (tgt := 1327) (by decide) (fun _ => next _ I2) (fun c => absurd rfl c)
set_option maxRecDepth 10000 in
set_option maxHeartbeats 4000000 in
theorem lw_heavy {w : wc_T} {κ : cx_T} {d B j : Nat} {Φ : Option Value → hp_T → Prop} (X : CX w κ (d + 31) 9 code 4 ret Φ) (hκ : k_1 κ = (135, 3491)) (hj : 6 * j + 6 ≤ w.2.2.2.2.2.1) (hN : w.2.2.2.2.2.1 ≤ 3072) (hB : B ≤ 9000) {h : hp_T} (I : Inv B 2852 h) (next : ∀ h1, Inv (B + 2) 2852 h1 → GG w κ 1327 [some (.ref 0), some (.ref 23), some (.ref 80), some (.int (nI (6 * j)))] [] h1) : GG w κ 625 [some (.ref 0), some (.ref 23), some (.ref 80), some (.int (nI (6 * j)))] [] h := by
  obtain ⟨σ, R, m, O, hs⟩ := I
  have C := R.C
  show GG w κ _ _ _ (wi h (h_i h))
  refine r_aload_n (pc := 625) X dLaw_625 rfl ?_
  refine r_aload_n (pc := 626) X dLaw_626 rfl ?_
  refine r_iload_n (pc := 627) X dLaw_627 rfl ?_
  refine r_iconst (pc := 628) (v := (nI 1)) X dLaw_628 (by decide) ?_
  refine r_iadd (pc := 629) X dLaw_629 ?_
  refine r_sld (pc := 630) X dLaw_630 (nI_add _ _) (by omega) (by omega) ?_
  refine r_c0_1G (pc := 631) X rfl dLaw_631 tc_9_78 mm_X7_heavy (kc_23 C) rfl rfl (k_heavy (d + 22) _ R O (by omega)) (Nat.le_of_ble_eq_true rfl) (fun v1 h1 q1 => ?_)
  obtain ⟨rfl, g, M1, rfl, R1, m1, e1⟩ := lw_c1 q1 m
  have C1 := R1.C
  have hs1 : 2 * h_s g + 103 * 123 ≤ 2 * 2852 + 103 * h_n g := by
    have a1 : h_n g = h_n h := congrArg Prod.fst e1
    have a2 : h_s g = h_s h := congrArg Prod.snd e1
    omega
  show GG w κ _ _ (Value.int _ :: []) _
  refine r_aload_n (pc := 634) X dLaw_634 rfl ?_
  refine r_aload_n (pc := 635) X dLaw_635 rfl ?_
  refine r_iload_n (pc := 636) X dLaw_636 rfl ?_
  refine r_iconst (pc := 637) (v := (nI 1)) X dLaw_637 (by decide) ?_
  refine r_iadd (pc := 638) X dLaw_638 ?_
  refine r_sld (pc := 639) X dLaw_639 (nI_add _ _) (by omega) (by omega) ?_
  refine r_c0_1G (pc := 640) X rfl dLaw_640 tc_9_81 mm_X8_heavy (kc_80 C1) rfl rfl (n_heavy (d + 21) _ C1 m1 O (by omega)) (Nat.le_of_ble_eq_true rfl) (fun v2 h2 q2 => ?_)
  obtain ⟨rfl, I2⟩ := lw_c2 (B := B + 2) (S := 2852) R1 q2 (o_heavy _ O (by omega)) hs1
  show GG w κ _ _ (Value.int _ :: Value.int _ :: []) _
  exact r_icmp_eq (pc := 643) X dLaw_643 (tgt := 1327) (by decide) (fun _ => next _ I2) (fun c => absurd rfl c)
set_option maxRecDepth 10000 in
set_option maxHeartbeats 4000000 in
theorem lw_change {w : wc_T} {κ : cx_T} {d B j : Nat} {Φ : Option Value → hp_T → Prop} (X : CX w κ (d + 31) 9 code 4 ret Φ) (hκ : k_1 κ = (135, 3491)) (hj : 6 * j + 6 ≤ w.2.2.2.2.2.1) (hN : w.2.2.2.2.2.1 ≤ 3072) (hB : B ≤ 9000) {h : hp_T} (I : Inv B 2852 h) (next : ∀ h1, Inv (B + 2) 2852 h1 → GG w κ 1327 [some (.ref 0), some (.ref 23), some (.ref 80), some (.int (nI (6 * j)))] [] h1) : GG w κ 648 [some (.ref 0), some (.ref 23), some (.ref 80), some (.int (nI (6 * j)))] [] h := by
  obtain ⟨σ, R, m, O, hs⟩ := I
  have C := R.C
  show GG w κ _ _ _ (wi h (h_i h))
  refine r_aload_n (pc := 648) X dLaw_648 rfl ?_
  refine r_c0_0G (pc := 649) X rfl dLaw_649 tc_9_82 mm_X7_change (kc_23 C) rfl rfl (k_change (d + 22) R O (by omega)) (Nat.le_of_ble_eq_true rfl) (fun v1 h1 q1 => ?_)
  obtain ⟨rfl, g, M1, rfl, R1, m1, e1⟩ := lw_c1 q1 m
  have C1 := R1.C
  have hs1 : 2 * h_s g + 103 * 123 ≤ 2 * 2852 + 103 * h_n g := by
    have a1 : h_n g = h_n h := congrArg Prod.fst e1
    have a2 : h_s g = h_s h := congrArg Prod.snd e1
    omega
  show GG w κ _ _ (Value.int _ :: []) _
  refine r_aload_n (pc := 652) X dLaw_652 rfl ?_
  refine r_c0_0G (pc := 653) X rfl dLaw_653 tc_9_85 mm_X8_change (kc_80 C1) rfl rfl (n_change (d + 21) C1 m1 O (by omega)) (Nat.le_of_ble_eq_true rfl) (fun v2 h2 q2 => ?_)
  obtain ⟨rfl, I2⟩ := lw_c2 (B := B + 2) (S := 2852) R1 q2 (o_change O (by omega)) hs1
  show GG w κ _ _ (Value.int _ :: Value.int _ :: []) _
  exact r_icmp_eq (pc := 656) X dLaw_656 (tgt := 1327) (by decide) (fun _ => next _ I2) (fun c => absurd rfl c)
set_option maxRecDepth 10000 in
set_option maxHeartbeats 4000000 in
theorem lw_mute {w : wc_T} {κ : cx_T} {d B j : Nat} {Φ : Option Value → hp_T → Prop} (X : CX w κ (d + 31) 9 code 4 ret Φ) (hκ : k_1 κ = (135, 3491)) (hj : 6 * j + 6 ≤ w.2.2.2.2.2.1) (hN : w.2.2.2.2.2.1 ≤ 3072) (hB : B ≤ 9000) {h : hp_T} (I : Inv B 2852 h) (next : ∀ h1, Inv (B + 2) 2852 h1 → GG w κ 1327 [some (.ref 0), some (.ref 23), some (.ref 80), some (.int (nI (6 * j)))] [] h1) : GG w κ 661 [some (.ref 0), some (.ref 23), some (.ref 80), some (.int (nI (6 * j)))] [] h := by
  obtain ⟨σ, R, m, O, hs⟩ := I
  have C := R.C
  show GG w κ _ _ _ (wi h (h_i h))
  refine r_aload_n (pc := 661) X dLaw_661 rfl ?_
  refine r_aload_n (pc := 662) X dLaw_662 rfl ?_
  refine r_iload_n (pc := 663) X dLaw_663 rfl ?_
  refine r_iconst (pc := 664) (v := (nI 1)) X dLaw_664 (by decide) ?_
  refine r_iadd (pc := 665) X dLaw_665 ?_
  refine r_sld (pc := 666) X dLaw_666 (nI_add _ _) (by omega) (by omega) ?_
  refine r_c0_1G (pc := 667) X rfl dLaw_667 tc_9_86 mm_X7_mute (kc_23 C) rfl rfl (k_mute (d + 22) _ R O (by omega)) (Nat.le_of_ble_eq_true rfl) (fun v1 h1 q1 => ?_)
  obtain ⟨rfl, g, M1, rfl, R1, m1, e1⟩ := lw_c1 q1 m
  have C1 := R1.C
  have hs1 : 2 * h_s g + 103 * 123 ≤ 2 * 2852 + 103 * h_n g := by
    have a1 : h_n g = h_n h := congrArg Prod.fst e1
    have a2 : h_s g = h_s h := congrArg Prod.snd e1
    omega
  show GG w κ _ _ (Value.int _ :: []) _
  refine r_aload_n (pc := 670) X dLaw_670 rfl ?_
  refine r_aload_n (pc := 671) X dLaw_671 rfl ?_
  refine r_iload_n (pc := 672) X dLaw_672 rfl ?_
  refine r_iconst (pc := 673) (v := (nI 1)) X dLaw_673 (by decide) ?_
  refine r_iadd (pc := 674) X dLaw_674 ?_
  refine r_sld (pc := 675) X dLaw_675 (nI_add _ _) (by omega) (by omega) ?_
  refine r_c0_1G (pc := 676) X rfl dLaw_676 tc_9_89 mm_X8_mute (kc_80 C1) rfl rfl (n_mute (d + 21) _ C1 m1 O (by omega)) (Nat.le_of_ble_eq_true rfl) (fun v2 h2 q2 => ?_)
  obtain ⟨rfl, I2⟩ := lw_c2 (B := B + 2) (S := 2852) R1 q2 (o_mute _ O (by omega)) hs1
  show GG w κ _ _ (Value.int _ :: Value.int _ :: []) _
  exact r_icmp_eq (pc := 679) X dLaw_679 (tgt := 1327) (by decide) (fun _ => next _ I2) (fun c => absurd rfl c)
set_option maxRecDepth 10000 in
set_option maxHeartbeats 4000000 in
theorem lw_see {w : wc_T} {κ : cx_T} {d B j : Nat} {Φ : Option Value → hp_T → Prop} (X : CX w κ (d + 31) 9 code 4 ret Φ) (hκ : k_1 κ = (135, 3491)) (hj : 6 * j + 6 ≤ w.2.2.2.2.2.1) (hN : w.2.2.2.2.2.1 ≤ 3072) (hB : B ≤ 9000) {h : hp_T} (I : Inv B 2852 h) (next : ∀ h1, Inv (B + 2) 2852 h1 → GG w κ 1327 [some (.ref 0), some (.ref 23), some (.ref 80), some (.int (nI (6 * j)))] [] h1) : GG w κ 684 [some (.ref 0), some (.ref 23), some (.ref 80), some (.int (nI (6 * j)))] [] h := by
  obtain ⟨σ, R, m, O, hs⟩ := I
  have C := R.C
  show GG w κ _ _ _ (wi h (h_i h))
  refine r_aload_n (pc := 684) X dLaw_684 rfl ?_
  refine r_aload_n (pc := 685) X dLaw_685 rfl ?_
  refine r_iload_n (pc := 686) X dLaw_686 rfl ?_
  refine r_iconst (pc := 687) (v := (nI 1)) X dLaw_687 (by decide) ?_
  refine r_iadd (pc := 688) X dLaw_688 ?_
  refine r_sld (pc := 689) X dLaw_689 (nI_add _ _) (by omega) (by omega) ?_
  refine r_aload_n (pc := 690) X dLaw_690 rfl ?_
  refine r_iload_n (pc := 691) X dLaw_691 rfl ?_
  refine r_iconst (pc := 692) (v := (nI 2)) X dLaw_692 (by decide) ?_
  refine r_iadd (pc := 693) X dLaw_693 ?_
  refine r_sld (pc := 694) X dLaw_694 (nI_add _ _) (by omega) (by omega) ?_
  refine r_c0_2G (pc := 695) X rfl dLaw_695 tc_9_90 mm_X7_see (kc_23 C) rfl rfl (k_see (d + 22) _ _ R O) (Nat.le_of_ble_eq_true rfl) (fun v1 h1 q1 => ?_)
  obtain ⟨rfl, g, M1, rfl, R1, m1, e1⟩ := lw_c1 q1 m
  have C1 := R1.C
  have hs1 : 2 * h_s g + 103 * 123 ≤ 2 * 2852 + 103 * h_n g := by
    have a1 : h_n g = h_n h := congrArg Prod.fst e1
    have a2 : h_s g = h_s h := congrArg Prod.snd e1
    omega
  show GG w κ _ _ (Value.int _ :: []) _
  refine r_aload_n (pc := 698) X dLaw_698 rfl ?_
  refine r_aload_n (pc := 699) X dLaw_699 rfl ?_
  refine r_iload_n (pc := 700) X dLaw_700 rfl ?_
  refine r_iconst (pc := 701) (v := (nI 1)) X dLaw_701 (by decide) ?_
  refine r_iadd (pc := 702) X dLaw_702 ?_
  refine r_sld (pc := 703) X dLaw_703 (nI_add _ _) (by omega) (by omega) ?_
  refine r_aload_n (pc := 704) X dLaw_704 rfl ?_
  refine r_iload_n (pc := 705) X dLaw_705 rfl ?_
  refine r_iconst (pc := 706) (v := (nI 2)) X dLaw_706 (by decide) ?_
  refine r_iadd (pc := 707) X dLaw_707 ?_
  refine r_sld (pc := 708) X dLaw_708 (nI_add _ _) (by omega) (by omega) ?_
  refine r_c0_2G (pc := 709) X rfl dLaw_709 tc_9_93 mm_X8_see (kc_80 C1) rfl rfl (n_see (d + 21) _ _ C1 m1 O) (Nat.le_of_ble_eq_true rfl) (fun v2 h2 q2 => ?_)
  obtain ⟨rfl, I2⟩ := lw_c2 (B := B + 2) (S := 2852) R1 q2 (o_see _ _ O (by omega)) hs1
  show GG w κ _ _ (Value.int _ :: Value.int _ :: []) _
  exact r_icmp_eq (pc := 712) X dLaw_712 (tgt := 1327) (by decide) (fun _ => next _ I2) (fun c => absurd rfl c)
set_option maxRecDepth 10000 in
set_option maxHeartbeats 4000000 in
theorem lw_from {w : wc_T} {κ : cx_T} {d B j : Nat} {Φ : Option Value → hp_T → Prop} (X : CX w κ (d + 31) 9 code 4 ret Φ) (hκ : k_1 κ = (135, 3491)) (hj : 6 * j + 6 ≤ w.2.2.2.2.2.1) (hN : w.2.2.2.2.2.1 ≤ 3072) (hB : B ≤ 9000) {h : hp_T} (I : Inv B 2852 h) (next : ∀ h1, Inv (B + 2) 2852 h1 → GG w κ 1327 [some (.ref 0), some (.ref 23), some (.ref 80), some (.int (nI (6 * j)))] [] h1) : GG w κ 717 [some (.ref 0), some (.ref 23), some (.ref 80), some (.int (nI (6 * j)))] [] h := by
  obtain ⟨σ, R, m, O, hs⟩ := I
  have C := R.C
  show GG w κ _ _ _ (wi h (h_i h))
  refine r_aload_n (pc := 717) X dLaw_717 rfl ?_
  refine r_c0_0G (pc := 718) X rfl dLaw_718 tc_9_94 mm_X7_from (kc_23 C) rfl rfl (k_from (d + 22) R O (by omega)) (Nat.le_of_ble_eq_true rfl) (fun v1 h1 q1 => ?_)
  obtain ⟨rfl, g, M1, rfl, R1, m1, e1⟩ := lw_c1 q1 m
  have C1 := R1.C
  have hs1 : 2 * h_s g + 103 * 123 ≤ 2 * 2852 + 103 * h_n g := by
    have a1 : h_n g = h_n h := congrArg Prod.fst e1
    have a2 : h_s g = h_s h := congrArg Prod.snd e1
    omega
  show GG w κ _ _ (Value.int _ :: []) _
  refine r_aload_n (pc := 721) X dLaw_721 rfl ?_
  refine r_c0_0G (pc := 722) X rfl dLaw_722 tc_9_97 mm_X8_from (kc_80 C1) rfl rfl (n_from (d + 21) C1 m1 O (by omega)) (Nat.le_of_ble_eq_true rfl) (fun v2 h2 q2 => ?_)
  obtain ⟨rfl, I2⟩ := lw_c2 (B := B + 2) (S := 2852) R1 q2 (o_from O (by omega)) hs1
  show GG w κ _ _ (Value.int _ :: Value.int _ :: []) _
  exact r_icmp_eq (pc := 725) X dLaw_725 (tgt := 1327) (by decide) (fun _ => next _ I2) (fun c => absurd rfl c)
set_option maxRecDepth 10000 in
set_option maxHeartbeats 4000000 in
theorem lw_had {w : wc_T} {κ : cx_T} {d B j : Nat} {Φ : Option Value → hp_T → Prop} (X : CX w κ (d + 31) 9 code 4 ret Φ) (hκ : k_1 κ = (135, 3491)) (hj : 6 * j + 6 ≤ w.2.2.2.2.2.1) (hN : w.2.2.2.2.2.1 ≤ 3072) (hB : B ≤ 9000) {h : hp_T} (I : Inv B 2852 h) (next : ∀ h1, Inv (B + 2) 2852 h1 → GG w κ 1327 [some (.ref 0), some (.ref 23), some (.ref 80), some (.int (nI (6 * j)))] [] h1) : GG w κ 730 [some (.ref 0), some (.ref 23), some (.ref 80), some (.int (nI (6 * j)))] [] h := by
  obtain ⟨σ, R, m, O, hs⟩ := I
  have C := R.C
  show GG w κ _ _ _ (wi h (h_i h))
  refine r_aload_n (pc := 730) X dLaw_730 rfl ?_
  refine r_aload_n (pc := 731) X dLaw_731 rfl ?_
  refine r_iload_n (pc := 732) X dLaw_732 rfl ?_
  refine r_iconst (pc := 733) (v := (nI 1)) X dLaw_733 (by decide) ?_
  refine r_iadd (pc := 734) X dLaw_734 ?_
  refine r_sld (pc := 735) X dLaw_735 (nI_add _ _) (by omega) (by omega) ?_
  refine r_aload_n (pc := 736) X dLaw_736 rfl ?_
  refine r_iload_n (pc := 737) X dLaw_737 rfl ?_
  refine r_iconst (pc := 738) (v := (nI 2)) X dLaw_738 (by decide) ?_
  refine r_iadd (pc := 739) X dLaw_739 ?_
  refine r_sld (pc := 740) X dLaw_740 (nI_add _ _) (by omega) (by omega) ?_
  refine r_c0_2G (pc := 741) X rfl dLaw_741 tc_9_98 mm_X7_had (kc_23 C) rfl rfl (k_had (d + 22) _ _ R O (by omega)) (Nat.le_of_ble_eq_true rfl) (fun v1 h1 q1 => ?_)
  obtain ⟨rfl, g, M1, rfl, R1, m1, e1⟩ := lw_c1 q1 m
  have C1 := R1.C
  have hs1 : 2 * h_s g + 103 * 123 ≤ 2 * 2852 + 103 * h_n g := by
    have a1 : h_n g = h_n h := congrArg Prod.fst e1
    have a2 : h_s g = h_s h := congrArg Prod.snd e1
    omega
  show GG w κ _ _ (Value.int _ :: []) _
  refine r_aload_n (pc := 744) X dLaw_744 rfl ?_
  refine r_aload_n (pc := 745) X dLaw_745 rfl ?_
  refine r_iload_n (pc := 746) X dLaw_746 rfl ?_
  refine r_iconst (pc := 747) (v := (nI 1)) X dLaw_747 (by decide) ?_
  refine r_iadd (pc := 748) X dLaw_748 ?_
  refine r_sld (pc := 749) X dLaw_749 (nI_add _ _) (by omega) (by omega) ?_
  refine r_aload_n (pc := 750) X dLaw_750 rfl ?_
  refine r_iload_n (pc := 751) X dLaw_751 rfl ?_
  refine r_iconst (pc := 752) (v := (nI 2)) X dLaw_752 (by decide) ?_
  refine r_iadd (pc := 753) X dLaw_753 ?_
  refine r_sld (pc := 754) X dLaw_754 (nI_add _ _) (by omega) (by omega) ?_
  refine r_c0_2G (pc := 755) X rfl dLaw_755 tc_9_101 mm_X8_had (kc_80 C1) rfl rfl (n_had (d + 21) _ _ C1 m1 O (by omega)) (Nat.le_of_ble_eq_true rfl) (fun v2 h2 q2 => ?_)
  obtain ⟨rfl, I2⟩ := lw_c2 (B := B + 2) (S := 2852) R1 q2 (o_had _ _ O (by omega)) hs1
  show GG w κ _ _ (Value.int _ :: Value.int _ :: []) _
  exact r_icmp_eq (pc := 758) X dLaw_758 (tgt := 1327) (by decide) (fun _ => next _ I2) (fun c => absurd rfl c)
set_option maxRecDepth 10000 in
set_option maxHeartbeats 4000000 in
theorem lw_odds {w : wc_T} {κ : cx_T} {d B j : Nat} {Φ : Option Value → hp_T → Prop} (X : CX w κ (d + 31) 9 code 4 ret Φ) (hκ : k_1 κ = (135, 3491)) (hj : 6 * j + 6 ≤ w.2.2.2.2.2.1) (hN : w.2.2.2.2.2.1 ≤ 3072) (hB : B ≤ 9000) {h : hp_T} (I : Inv B 2852 h) (next : ∀ h1, Inv (B + 2) 2852 h1 → GG w κ 1327 [some (.ref 0), some (.ref 23), some (.ref 80), some (.int (nI (6 * j)))] [] h1) : GG w κ 763 [some (.ref 0), some (.ref 23), some (.ref 80), some (.int (nI (6 * j)))] [] h := by
  obtain ⟨σ, R, m, O, hs⟩ := I
  have C := R.C
  show GG w κ _ _ _ (wi h (h_i h))
  refine r_aload_n (pc := 763) X dLaw_763 rfl ?_
  refine r_aload_n (pc := 764) X dLaw_764 rfl ?_
  refine r_iload_n (pc := 765) X dLaw_765 rfl ?_
  refine r_iconst (pc := 766) (v := (nI 1)) X dLaw_766 (by decide) ?_
  refine r_iadd (pc := 767) X dLaw_767 ?_
  refine r_sld (pc := 768) X dLaw_768 (nI_add _ _) (by omega) (by omega) ?_
  refine r_aload_n (pc := 769) X dLaw_769 rfl ?_
  refine r_iload_n (pc := 770) X dLaw_770 rfl ?_
  refine r_iconst (pc := 771) (v := (nI 2)) X dLaw_771 (by decide) ?_
  refine r_iadd (pc := 772) X dLaw_772 ?_
  refine r_sld (pc := 773) X dLaw_773 (nI_add _ _) (by omega) (by omega) ?_
  refine r_c0_2G (pc := 774) X rfl dLaw_774 tc_9_102 mm_X7_odds (kc_23 C) rfl rfl (k_odds (d + 22) _ _ R O (by omega)) (Nat.le_of_ble_eq_true rfl) (fun v1 h1 q1 => ?_)
  obtain ⟨rfl, g, M1, rfl, R1, m1, e1⟩ := lw_l1 q1 m
  have C1 := R1.C
  have hs1 : 2 * h_s g + 103 * 123 ≤ 2 * 2852 + 103 * h_n g := by
    have a1 : h_n g = h_n h := congrArg Prod.fst e1
    have a2 : h_s g = h_s h := congrArg Prod.snd e1
    omega
  show GG w κ _ _ (Value.long _ :: []) _
  refine r_aload_n (pc := 777) X dLaw_777 rfl ?_
  refine r_aload_n (pc := 778) X dLaw_778 rfl ?_
  refine r_iload_n (pc := 779) X dLaw_779 rfl ?_
  refine r_iconst (pc := 780) (v := (nI 1)) X dLaw_780 (by decide) ?_
  refine r_iadd (pc := 781) X dLaw_781 ?_
  refine r_sld (pc := 782) X dLaw_782 (nI_add _ _) (by omega) (by omega) ?_
  refine r_aload_n (pc := 783) X dLaw_783 rfl ?_
  refine r_iload_n (pc := 784) X dLaw_784 rfl ?_
  refine r_iconst (pc := 785) (v := (nI 2)) X dLaw_785 (by decide) ?_
  refine r_iadd (pc := 786) X dLaw_786 ?_
  refine r_sld (pc := 787) X dLaw_787 (nI_add _ _) (by omega) (by omega) ?_
  refine r_c0_2G (pc := 788) X rfl dLaw_788 tc_9_106 mm_X8_odds (kc_80 C1) rfl rfl (n_odds (d + 21) _ _ C1 m1 O (by omega)) (Nat.le_of_ble_eq_true rfl) (fun v2 h2 q2 => ?_)
  obtain ⟨rfl, I2⟩ := lw_l2 (B := B + 2) (S := 2852) R1 q2 (o_odds _ _ O (by omega)) hs1
  show GG w κ _ _ (Value.long _ :: Value.long _ :: []) _
  refine r_lcmp (pc := 791) X dLaw_791 ?_
  exact r_if_eq (pc := 792) X dLaw_792 (tgt := 1327) (by decide) (fun _ => next _ I2) (fun c => absurd (lg_eq0.mpr rfl) c)
set_option maxRecDepth 10000 in
set_option maxHeartbeats 4000000 in
theorem lw_mean {w : wc_T} {κ : cx_T} {d B j : Nat} {Φ : Option Value → hp_T → Prop} (X : CX w κ (d + 31) 9 code 4 ret Φ) (hκ : k_1 κ = (135, 3491)) (hj : 6 * j + 6 ≤ w.2.2.2.2.2.1) (hN : w.2.2.2.2.2.1 ≤ 3072) (hB : B ≤ 9000) {h : hp_T} (I : Inv B 2852 h) (next : ∀ h1, Inv (B + 2) 2852 h1 → GG w κ 1327 [some (.ref 0), some (.ref 23), some (.ref 80), some (.int (nI (6 * j)))] [] h1) : GG w κ 797 [some (.ref 0), some (.ref 23), some (.ref 80), some (.int (nI (6 * j)))] [] h := by
  obtain ⟨σ, R, m, O, hs⟩ := I
  have C := R.C
  show GG w κ _ _ _ (wi h (h_i h))
  refine r_aload_n (pc := 797) X dLaw_797 rfl ?_
  refine r_aload_n (pc := 798) X dLaw_798 rfl ?_
  refine r_iload_n (pc := 799) X dLaw_799 rfl ?_
  refine r_iconst (pc := 800) (v := (nI 1)) X dLaw_800 (by decide) ?_
  refine r_iadd (pc := 801) X dLaw_801 ?_
  refine r_sld (pc := 802) X dLaw_802 (nI_add _ _) (by omega) (by omega) ?_
  refine r_aload_n (pc := 803) X dLaw_803 rfl ?_
  refine r_iload_n (pc := 804) X dLaw_804 rfl ?_
  refine r_iconst (pc := 805) (v := (nI 2)) X dLaw_805 (by decide) ?_
  refine r_iadd (pc := 806) X dLaw_806 ?_
  refine r_sld (pc := 807) X dLaw_807 (nI_add _ _) (by omega) (by omega) ?_
  refine r_c0_2G (pc := 808) X rfl dLaw_808 tc_9_107 mm_X7_mean (kc_23 C) rfl rfl (k_mean (d + 22) _ _ R O (by omega)) (Nat.le_of_ble_eq_true rfl) (fun v1 h1 q1 => ?_)
  obtain ⟨rfl, g, M1, rfl, R1, m1, e1⟩ := lw_l1 q1 m
  have C1 := R1.C
  have hs1 : 2 * h_s g + 103 * 123 ≤ 2 * 2852 + 103 * h_n g := by
    have a1 : h_n g = h_n h := congrArg Prod.fst e1
    have a2 : h_s g = h_s h := congrArg Prod.snd e1
    omega
  show GG w κ _ _ (Value.long _ :: []) _
  refine r_aload_n (pc := 811) X dLaw_811 rfl ?_
  refine r_aload_n (pc := 812) X dLaw_812 rfl ?_
  refine r_iload_n (pc := 813) X dLaw_813 rfl ?_
  refine r_iconst (pc := 814) (v := (nI 1)) X dLaw_814 (by decide) ?_
  refine r_iadd (pc := 815) X dLaw_815 ?_
  refine r_sld (pc := 816) X dLaw_816 (nI_add _ _) (by omega) (by omega) ?_
  refine r_aload_n (pc := 817) X dLaw_817 rfl ?_
  refine r_iload_n (pc := 818) X dLaw_818 rfl ?_
  refine r_iconst (pc := 819) (v := (nI 2)) X dLaw_819 (by decide) ?_
  refine r_iadd (pc := 820) X dLaw_820 ?_
  refine r_sld (pc := 821) X dLaw_821 (nI_add _ _) (by omega) (by omega) ?_
  refine r_c0_2G (pc := 822) X rfl dLaw_822 tc_9_110 mm_X8_mean (kc_80 C1) rfl rfl (n_mean (d + 21) _ _ C1 m1 O (by omega)) (Nat.le_of_ble_eq_true rfl) (fun v2 h2 q2 => ?_)
  obtain ⟨rfl, I2⟩ := lw_l2 (B := B + 2) (S := 2852) R1 q2 (o_mean _ _ O (by omega)) hs1
  show GG w κ _ _ (Value.long _ :: Value.long _ :: []) _
  refine r_lcmp (pc := 825) X dLaw_825 ?_
  exact r_if_eq (pc := 826) X dLaw_826 (tgt := 1327) (by decide) (fun _ => next _ I2) (fun c => absurd (lg_eq0.mpr rfl) c)
set_option maxRecDepth 10000 in
set_option maxHeartbeats 4000000 in
theorem lw_game {w : wc_T} {κ : cx_T} {d B j : Nat} {Φ : Option Value → hp_T → Prop} (X : CX w κ (d + 31) 9 code 4 ret Φ) (hκ : k_1 κ = (135, 3491)) (hj : 6 * j + 6 ≤ w.2.2.2.2.2.1) (hN : w.2.2.2.2.2.1 ≤ 3072) (hB : B ≤ 9000) {h : hp_T} (I : Inv B 2852 h) (next : ∀ h1, Inv (B + 2) 2852 h1 → GG w κ 1327 [some (.ref 0), some (.ref 23), some (.ref 80), some (.int (nI (6 * j)))] [] h1) : GG w κ 831 [some (.ref 0), some (.ref 23), some (.ref 80), some (.int (nI (6 * j)))] [] h := by
  obtain ⟨σ, R, m, O, hs⟩ := I
  have C := R.C
  show GG w κ _ _ _ (wi h (h_i h))
  refine r_aload_n (pc := 831) X dLaw_831 rfl ?_
  refine r_aload_n (pc := 832) X dLaw_832 rfl ?_
  refine r_iload_n (pc := 833) X dLaw_833 rfl ?_
  refine r_iconst (pc := 834) (v := (nI 1)) X dLaw_834 (by decide) ?_
  refine r_iadd (pc := 835) X dLaw_835 ?_
  refine r_sld (pc := 836) X dLaw_836 (nI_add _ _) (by omega) (by omega) ?_
  refine r_aload_n (pc := 837) X dLaw_837 rfl ?_
  refine r_iload_n (pc := 838) X dLaw_838 rfl ?_
  refine r_iconst (pc := 839) (v := (nI 2)) X dLaw_839 (by decide) ?_
  refine r_iadd (pc := 840) X dLaw_840 ?_
  refine r_sld (pc := 841) X dLaw_841 (nI_add _ _) (by omega) (by omega) ?_
  refine r_c0_2G (pc := 842) X rfl dLaw_842 tc_9_111 mm_X7_game (kc_23 C) rfl rfl (k_game (d + 22) _ _ R O) (Nat.le_of_ble_eq_true rfl) (fun v1 h1 q1 => ?_)
  obtain ⟨rfl, g, M1, rfl, R1, m1, e1⟩ := lw_c1 q1 m
  have C1 := R1.C
  have hs1 : 2 * h_s g + 103 * 123 ≤ 2 * 2852 + 103 * h_n g := by
    have a1 : h_n g = h_n h := congrArg Prod.fst e1
    have a2 : h_s g = h_s h := congrArg Prod.snd e1
    omega
  show GG w κ _ _ (Value.int _ :: []) _
  refine r_aload_n (pc := 845) X dLaw_845 rfl ?_
  refine r_aload_n (pc := 846) X dLaw_846 rfl ?_
  refine r_iload_n (pc := 847) X dLaw_847 rfl ?_
  refine r_iconst (pc := 848) (v := (nI 1)) X dLaw_848 (by decide) ?_
  refine r_iadd (pc := 849) X dLaw_849 ?_
  refine r_sld (pc := 850) X dLaw_850 (nI_add _ _) (by omega) (by omega) ?_
  refine r_aload_n (pc := 851) X dLaw_851 rfl ?_
  refine r_iload_n (pc := 852) X dLaw_852 rfl ?_
  refine r_iconst (pc := 853) (v := (nI 2)) X dLaw_853 (by decide) ?_
  refine r_iadd (pc := 854) X dLaw_854 ?_
  refine r_sld (pc := 855) X dLaw_855 (nI_add _ _) (by omega) (by omega) ?_
  refine r_c0_2G (pc := 856) X rfl dLaw_856 tc_9_114 mm_X8_game (kc_80 C1) rfl rfl (n_game (d + 21) _ _ C1 m1 O) (Nat.le_of_ble_eq_true rfl) (fun v2 h2 q2 => ?_)
  obtain ⟨rfl, I2⟩ := lw_c2 (B := B + 2) (S := 2852) R1 q2 (o_game _ _ O (by omega)) hs1
  show GG w κ _ _ (Value.int _ :: Value.int _ :: []) _
  exact r_icmp_eq (pc := 859) X dLaw_859 (tgt := 1327) (by decide) (fun _ => next _ I2) (fun c => absurd rfl c)
set_option maxRecDepth 10000 in
set_option maxHeartbeats 4000000 in
theorem lw_gone {w : wc_T} {κ : cx_T} {d B j : Nat} {Φ : Option Value → hp_T → Prop} (X : CX w κ (d + 31) 9 code 4 ret Φ) (hκ : k_1 κ = (135, 3491)) (hj : 6 * j + 6 ≤ w.2.2.2.2.2.1) (hN : w.2.2.2.2.2.1 ≤ 3072) (hB : B ≤ 9000) {h : hp_T} (I : Inv B 2852 h) (next : ∀ h1, Inv (B + 2) 2852 h1 → GG w κ 1327 [some (.ref 0), some (.ref 23), some (.ref 80), some (.int (nI (6 * j)))] [] h1) : GG w κ 864 [some (.ref 0), some (.ref 23), some (.ref 80), some (.int (nI (6 * j)))] [] h := by
  obtain ⟨σ, R, m, O, hs⟩ := I
  have C := R.C
  show GG w κ _ _ _ (wi h (h_i h))
  refine r_aload_n (pc := 864) X dLaw_864 rfl ?_
  refine r_aload_n (pc := 865) X dLaw_865 rfl ?_
  refine r_iload_n (pc := 866) X dLaw_866 rfl ?_
  refine r_iconst (pc := 867) (v := (nI 1)) X dLaw_867 (by decide) ?_
  refine r_iadd (pc := 868) X dLaw_868 ?_
  refine r_sld (pc := 869) X dLaw_869 (nI_add _ _) (by omega) (by omega) ?_
  refine r_c0_1G (pc := 870) X rfl dLaw_870 tc_9_115 mm_X7_gone (kc_23 C) rfl rfl (k_gone (d + 22) _ R O (by omega)) (Nat.le_of_ble_eq_true rfl) (fun v1 h1 q1 => ?_)
  obtain ⟨rfl, g, M1, rfl, R1, m1, e1⟩ := lw_c1 q1 m
  have C1 := R1.C
  have hs1 : 2 * h_s g + 103 * 123 ≤ 2 * 2852 + 103 * h_n g := by
    have a1 : h_n g = h_n h := congrArg Prod.fst e1
    have a2 : h_s g = h_s h := congrArg Prod.snd e1
    omega
  show GG w κ _ _ (Value.int _ :: []) _
  refine r_aload_n (pc := 873) X dLaw_873 rfl ?_
  refine r_aload_n (pc := 874) X dLaw_874 rfl ?_
  refine r_iload_n (pc := 875) X dLaw_875 rfl ?_
  refine r_iconst (pc := 876) (v := (nI 1)) X dLaw_876 (by decide) ?_
  refine r_iadd (pc := 877) X dLaw_877 ?_
  refine r_sld (pc := 878) X dLaw_878 (nI_add _ _) (by omega) (by omega) ?_
  refine r_c0_1G (pc := 879) X rfl dLaw_879 tc_9_118 mm_X8_gone (kc_80 C1) rfl rfl (n_gone (d + 21) _ C1 m1 O (by omega)) (Nat.le_of_ble_eq_true rfl) (fun v2 h2 q2 => ?_)
  obtain ⟨rfl, I2⟩ := lw_c2 (B := B + 2) (S := 2852) R1 q2 (o_gone _ O (by omega)) hs1
  show GG w κ _ _ (Value.int _ :: Value.int _ :: []) _
  exact r_icmp_eq (pc := 882) X dLaw_882 (tgt := 1327) (by decide) (fun _ => next _ I2) (fun c => absurd rfl c)
set_option maxRecDepth 10000 in
set_option maxHeartbeats 4000000 in
theorem lw_book {w : wc_T} {κ : cx_T} {d B j : Nat} {Φ : Option Value → hp_T → Prop} (X : CX w κ (d + 31) 9 code 4 ret Φ) (hκ : k_1 κ = (135, 3491)) (hj : 6 * j + 6 ≤ w.2.2.2.2.2.1) (hN : w.2.2.2.2.2.1 ≤ 3072) (hB : B ≤ 9000) {h : hp_T} (I : Inv B 2852 h) (next : ∀ h1, Inv (B + 2) 2852 h1 → GG w κ 1327 [some (.ref 0), some (.ref 23), some (.ref 80), some (.int (nI (6 * j)))] [] h1) : GG w κ 887 [some (.ref 0), some (.ref 23), some (.ref 80), some (.int (nI (6 * j)))] [] h := by
  obtain ⟨σ, R, m, O, hs⟩ := I
  have C := R.C
  show GG w κ _ _ _ (wi h (h_i h))
  refine r_aload_n (pc := 887) X dLaw_887 rfl ?_
  refine r_aload_n (pc := 888) X dLaw_888 rfl ?_
  refine r_iload_n (pc := 889) X dLaw_889 rfl ?_
  refine r_iconst (pc := 890) (v := (nI 1)) X dLaw_890 (by decide) ?_
  refine r_iadd (pc := 891) X dLaw_891 ?_
  refine r_sld (pc := 892) X dLaw_892 (nI_add _ _) (by omega) (by omega) ?_
  refine r_aload_n (pc := 893) X dLaw_893 rfl ?_
  refine r_iload_n (pc := 894) X dLaw_894 rfl ?_
  refine r_iconst (pc := 895) (v := (nI 2)) X dLaw_895 (by decide) ?_
  refine r_iadd (pc := 896) X dLaw_896 ?_
  refine r_sld (pc := 897) X dLaw_897 (nI_add _ _) (by omega) (by omega) ?_
  refine r_c0_2G (pc := 898) X rfl dLaw_898 tc_9_119 mm_X7_book (kc_23 C) rfl rfl (k_book (d + 22) _ _ R O) (Nat.le_of_ble_eq_true rfl) (fun v1 h1 q1 => ?_)
  obtain ⟨rfl, g, M1, rfl, R1, m1, e1⟩ := lw_c1 q1 m
  have C1 := R1.C
  have hs1 : 2 * h_s g + 103 * 123 ≤ 2 * 2852 + 103 * h_n g := by
    have a1 : h_n g = h_n h := congrArg Prod.fst e1
    have a2 : h_s g = h_s h := congrArg Prod.snd e1
    omega
  show GG w κ _ _ (Value.int _ :: []) _
  refine r_aload_n (pc := 901) X dLaw_901 rfl ?_
  refine r_aload_n (pc := 902) X dLaw_902 rfl ?_
  refine r_iload_n (pc := 903) X dLaw_903 rfl ?_
  refine r_iconst (pc := 904) (v := (nI 1)) X dLaw_904 (by decide) ?_
  refine r_iadd (pc := 905) X dLaw_905 ?_
  refine r_sld (pc := 906) X dLaw_906 (nI_add _ _) (by omega) (by omega) ?_
  refine r_aload_n (pc := 907) X dLaw_907 rfl ?_
  refine r_iload_n (pc := 908) X dLaw_908 rfl ?_
  refine r_iconst (pc := 909) (v := (nI 2)) X dLaw_909 (by decide) ?_
  refine r_iadd (pc := 910) X dLaw_910 ?_
  refine r_sld (pc := 911) X dLaw_911 (nI_add _ _) (by omega) (by omega) ?_
  refine r_c0_2G (pc := 912) X rfl dLaw_912 tc_9_122 mm_X8_book (kc_80 C1) rfl rfl (n_book (d + 21) _ _ C1 m1 O) (Nat.le_of_ble_eq_true rfl) (fun v2 h2 q2 => ?_)
  obtain ⟨rfl, I2⟩ := lw_c2 (B := B + 2) (S := 2852) R1 q2 (o_book _ _ O (by omega)) hs1
  show GG w κ _ _ (Value.int _ :: Value.int _ :: []) _
  exact r_icmp_eq (pc := 915) X dLaw_915 (tgt := 1327) (by decide) (fun _ => next _ I2) (fun c => absurd rfl c)
set_option maxRecDepth 10000 in
set_option maxHeartbeats 4000000 in
theorem lw_looked {w : wc_T} {κ : cx_T} {d B j : Nat} {Φ : Option Value → hp_T → Prop} (X : CX w κ (d + 31) 9 code 4 ret Φ) (hκ : k_1 κ = (135, 3491)) (hj : 6 * j + 6 ≤ w.2.2.2.2.2.1) (hN : w.2.2.2.2.2.1 ≤ 3072) (hB : B ≤ 9000) {h : hp_T} (I : Inv B 2852 h) (next : ∀ h1, Inv (B + 2) 2852 h1 → GG w κ 1327 [some (.ref 0), some (.ref 23), some (.ref 80), some (.int (nI (6 * j)))] [] h1) : GG w κ 920 [some (.ref 0), some (.ref 23), some (.ref 80), some (.int (nI (6 * j)))] [] h := by
  obtain ⟨σ, R, m, O, hs⟩ := I
  have C := R.C
  show GG w κ _ _ _ (wi h (h_i h))
  refine r_aload_n (pc := 920) X dLaw_920 rfl ?_
  refine r_c0_0G (pc := 921) X rfl dLaw_921 tc_9_123 mm_X7_looked (kc_23 C) rfl rfl (k_looked (d + 22) R O) (Nat.le_of_ble_eq_true rfl) (fun v1 h1 q1 => ?_)
  obtain ⟨rfl, g, M1, rfl, R1, m1, e1⟩ := lw_c1 q1 m
  have C1 := R1.C
  have hs1 : 2 * h_s g + 103 * 123 ≤ 2 * 2852 + 103 * h_n g := by
    have a1 : h_n g = h_n h := congrArg Prod.fst e1
    have a2 : h_s g = h_s h := congrArg Prod.snd e1
    omega
  show GG w κ _ _ (Value.int _ :: []) _
  refine r_aload_n (pc := 924) X dLaw_924 rfl ?_
  refine r_c0_0G (pc := 925) X rfl dLaw_925 tc_9_126 mm_X8_looked (kc_80 C1) rfl rfl (n_looked (d + 21) C1 m1 O) (Nat.le_of_ble_eq_true rfl) (fun v2 h2 q2 => ?_)
  obtain ⟨rfl, I2⟩ := lw_c2 (B := B + 2) (S := 2852) R1 q2 (o_looked O (by omega)) hs1
  show GG w κ _ _ (Value.int _ :: Value.int _ :: []) _
  exact r_icmp_eq (pc := 928) X dLaw_928 (tgt := 1327) (by decide) (fun _ => next _ I2) (fun c => absurd rfl c)
set_option maxRecDepth 10000 in
set_option maxHeartbeats 4000000 in
theorem lw_judge {w : wc_T} {κ : cx_T} {d B j : Nat} {Φ : Option Value → hp_T → Prop} (X : CX w κ (d + 31) 9 code 4 ret Φ) (hκ : k_1 κ = (135, 3491)) (hj : 6 * j + 6 ≤ w.2.2.2.2.2.1) (hN : w.2.2.2.2.2.1 ≤ 3072) (hB : B ≤ 9000) {h : hp_T} (I : Inv B 2852 h) (next : ∀ h1, Inv (B + 2) 2852 h1 → GG w κ 1327 [some (.ref 0), some (.ref 23), some (.ref 80), some (.int (nI (6 * j)))] [] h1) : GG w κ 933 [some (.ref 0), some (.ref 23), some (.ref 80), some (.int (nI (6 * j)))] [] h := by
  obtain ⟨σ, R, m, O, hs⟩ := I
  have C := R.C
  show GG w κ _ _ _ (wi h (h_i h))
  refine r_aload_n (pc := 933) X dLaw_933 rfl ?_
  refine r_aload_n (pc := 934) X dLaw_934 rfl ?_
  refine r_iload_n (pc := 935) X dLaw_935 rfl ?_
  refine r_iconst (pc := 936) (v := (nI 1)) X dLaw_936 (by decide) ?_
  refine r_iadd (pc := 937) X dLaw_937 ?_
  refine r_sld (pc := 938) X dLaw_938 (nI_add _ _) (by omega) (by omega) ?_
  refine r_aload_n (pc := 939) X dLaw_939 rfl ?_
  refine r_iload_n (pc := 940) X dLaw_940 rfl ?_
  refine r_iconst (pc := 941) (v := (nI 2)) X dLaw_941 (by decide) ?_
  refine r_iadd (pc := 942) X dLaw_942 ?_
  refine r_sld (pc := 943) X dLaw_943 (nI_add _ _) (by omega) (by omega) ?_
  refine r_c0_2G (pc := 944) X rfl dLaw_944 tc_9_127 mm_X7_judge (kc_23 C) rfl rfl (k_judge (d + 22) _ _ R O) (Nat.le_of_ble_eq_true rfl) (fun v1 h1 q1 => ?_)
  obtain ⟨rfl, g, M1, rfl, R1, m1, e1⟩ := lw_c1 q1 m
  have C1 := R1.C
  have hs1 : 2 * h_s g + 103 * 123 ≤ 2 * 2852 + 103 * h_n g := by
    have a1 : h_n g = h_n h := congrArg Prod.fst e1
    have a2 : h_s g = h_s h := congrArg Prod.snd e1
    omega
  show GG w κ _ _ (Value.int _ :: []) _
  refine r_aload_n (pc := 947) X dLaw_947 rfl ?_
  refine r_aload_n (pc := 948) X dLaw_948 rfl ?_
  refine r_iload_n (pc := 949) X dLaw_949 rfl ?_
  refine r_iconst (pc := 950) (v := (nI 1)) X dLaw_950 (by decide) ?_
  refine r_iadd (pc := 951) X dLaw_951 ?_
  refine r_sld (pc := 952) X dLaw_952 (nI_add _ _) (by omega) (by omega) ?_
  refine r_aload_n (pc := 953) X dLaw_953 rfl ?_
  refine r_iload_n (pc := 954) X dLaw_954 rfl ?_
  refine r_iconst (pc := 955) (v := (nI 2)) X dLaw_955 (by decide) ?_
  refine r_iadd (pc := 956) X dLaw_956 ?_
  refine r_sld (pc := 957) X dLaw_957 (nI_add _ _) (by omega) (by omega) ?_
  refine r_c0_2G (pc := 958) X rfl dLaw_958 tc_9_130 mm_X8_judge (kc_80 C1) rfl rfl (n_judge (d + 21) _ _ C1 m1 O) (Nat.le_of_ble_eq_true rfl) (fun v2 h2 q2 => ?_)
  obtain ⟨rfl, I2⟩ := lw_c2 (B := B + 2) (S := 2852) R1 q2 (o_judge _ _ O (by omega)) hs1
  show GG w κ _ _ (Value.int _ :: Value.int _ :: []) _
  exact r_icmp_eq (pc := 961) X dLaw_961 (tgt := 1327) (by decide) (fun _ => next _ I2) (fun c => absurd rfl c)
set_option maxRecDepth 10000 in
set_option maxHeartbeats 4000000 in
theorem lw_image {w : wc_T} {κ : cx_T} {d B j : Nat} {Φ : Option Value → hp_T → Prop} (X : CX w κ (d + 31) 9 code 4 ret Φ) (hκ : k_1 κ = (135, 3491)) (hj : 6 * j + 6 ≤ w.2.2.2.2.2.1) (hN : w.2.2.2.2.2.1 ≤ 3072) (hB : B ≤ 9000) {h : hp_T} (I : Inv B 2852 h) (next : ∀ h1, Inv (B + 2) 2852 h1 → GG w κ 1327 [some (.ref 0), some (.ref 23), some (.ref 80), some (.int (nI (6 * j)))] [] h1) : GG w κ 966 [some (.ref 0), some (.ref 23), some (.ref 80), some (.int (nI (6 * j)))] [] h := by
  obtain ⟨σ, R, m, O, hs⟩ := I
  have C := R.C
  show GG w κ _ _ _ (wi h (h_i h))
  refine r_aload_n (pc := 966) X dLaw_966 rfl ?_
  refine r_c0_0G (pc := 967) X rfl dLaw_967 tc_9_131 mm_X7_image (kc_23 C) rfl rfl (k_image (d + 22) R O) (Nat.le_of_ble_eq_true rfl) (fun v1 h1 q1 => ?_)
  obtain ⟨rfl, g, M1, rfl, R1, m1, e1⟩ := lw_c1 q1 m
  have C1 := R1.C
  have hs1 : 2 * h_s g + 103 * 123 ≤ 2 * 2852 + 103 * h_n g := by
    have a1 : h_n g = h_n h := congrArg Prod.fst e1
    have a2 : h_s g = h_s h := congrArg Prod.snd e1
    omega
  show GG w κ _ _ (Value.int _ :: []) _
  refine r_aload_n (pc := 970) X dLaw_970 rfl ?_
  refine r_c0_0G (pc := 971) X rfl dLaw_971 tc_9_134 mm_X8_image (kc_80 C1) rfl rfl (n_image (d + 21) C1 m1 O) (Nat.le_of_ble_eq_true rfl) (fun v2 h2 q2 => ?_)
  obtain ⟨rfl, I2⟩ := lw_c2 (B := B + 2) (S := 2852) R1 q2 (o_image O (by omega)) hs1
  show GG w κ _ _ (Value.int _ :: Value.int _ :: []) _
  exact r_icmp_eq (pc := 974) X dLaw_974 (tgt := 1327) (by decide) (fun _ => next _ I2) (fun c => absurd rfl c)
set_option maxRecDepth 10000 in
set_option maxHeartbeats 4000000 in
theorem lw_undo {w : wc_T} {κ : cx_T} {d B j : Nat} {Φ : Option Value → hp_T → Prop} (X : CX w κ (d + 31) 9 code 4 ret Φ) (hκ : k_1 κ = (135, 3491)) (hj : 6 * j + 6 ≤ w.2.2.2.2.2.1) (hN : w.2.2.2.2.2.1 ≤ 3072) (hB : B ≤ 9000) {h : hp_T} (I : Inv B 2852 h) (next : ∀ h1, Inv (B + 2) 2852 h1 → GG w κ 1327 [some (.ref 0), some (.ref 23), some (.ref 80), some (.int (nI (6 * j)))] [] h1) : GG w κ 979 [some (.ref 0), some (.ref 23), some (.ref 80), some (.int (nI (6 * j)))] [] h := by
  obtain ⟨σ, R, m, O, hs⟩ := I
  have C := R.C
  show GG w κ _ _ _ (wi h (h_i h))
  refine r_aload_n (pc := 979) X dLaw_979 rfl ?_
  refine r_c0_0G (pc := 980) X rfl dLaw_980 tc_9_135 mm_X7_undo (kc_23 C) rfl rfl (k_undo (d + 22) R O) (Nat.le_of_ble_eq_true rfl) (fun v1 h1 q1 => ?_)
  obtain ⟨rfl, g, M1, rfl, R1, m1, e1⟩ := lw_c1 q1 m
  have C1 := R1.C
  have hs1 : 2 * h_s g + 103 * 123 ≤ 2 * 2852 + 103 * h_n g := by
    have a1 : h_n g = h_n h := congrArg Prod.fst e1
    have a2 : h_s g = h_s h := congrArg Prod.snd e1
    omega
  show GG w κ _ _ (Value.int _ :: []) _
  refine r_aload_n (pc := 983) X dLaw_983 rfl ?_
  refine r_c0_0G (pc := 984) X rfl dLaw_984 tc_9_138 mm_X8_undo (kc_80 C1) rfl rfl (n_undo (d + 21) C1 m1 O) (Nat.le_of_ble_eq_true rfl) (fun v2 h2 q2 => ?_)
  obtain ⟨rfl, I2⟩ := lw_c2 (B := B + 2) (S := 2852) R1 q2 (o_undo O (by omega)) hs1
  show GG w κ _ _ (Value.int _ :: Value.int _ :: []) _
  exact r_icmp_eq (pc := 987) X dLaw_987 (tgt := 1327) (by decide) (fun _ => next _ I2) (fun c => absurd rfl c)
set_option maxRecDepth 10000 in
set_option maxHeartbeats 4000000 in
theorem lw_act {w : wc_T} {κ : cx_T} {d B j : Nat} {Φ : Option Value → hp_T → Prop} (X : CX w κ (d + 31) 9 code 4 ret Φ) (hκ : k_1 κ = (135, 3491)) (hj : 6 * j + 6 ≤ w.2.2.2.2.2.1) (hN : w.2.2.2.2.2.1 ≤ 3072) (hB : B ≤ 9000) {h : hp_T} (I : Inv B 2852 h) (next : ∀ h1, Inv (B + 2) 2852 h1 → GG w κ 1327 [some (.ref 0), some (.ref 23), some (.ref 80), some (.int (nI (6 * j)))] [] h1) : GG w κ 992 [some (.ref 0), some (.ref 23), some (.ref 80), some (.int (nI (6 * j)))] [] h := by
  obtain ⟨σ, R, m, O, hs⟩ := I
  have C := R.C
  show GG w κ _ _ _ (wi h (h_i h))
  refine r_aload_n (pc := 992) X dLaw_992 rfl ?_
  refine r_aload_n (pc := 993) X dLaw_993 rfl ?_
  refine r_iload_n (pc := 994) X dLaw_994 rfl ?_
  refine r_iconst (pc := 995) (v := (nI 1)) X dLaw_995 (by decide) ?_
  refine r_iadd (pc := 996) X dLaw_996 ?_
  refine r_sld (pc := 997) X dLaw_997 (nI_add _ _) (by omega) (by omega) ?_
  refine r_aload_n (pc := 998) X dLaw_998 rfl ?_
  refine r_iload_n (pc := 999) X dLaw_999 rfl ?_
  refine r_iconst (pc := 1000) (v := (nI 2)) X dLaw_1000 (by decide) ?_
  refine r_iadd (pc := 1001) X dLaw_1001 ?_
  refine r_sld (pc := 1002) X dLaw_1002 (nI_add _ _) (by omega) (by omega) ?_
  refine r_aload_n (pc := 1003) X dLaw_1003 rfl ?_
  refine r_iload_n (pc := 1004) X dLaw_1004 rfl ?_
  refine r_iconst (pc := 1005) (v := (nI 3)) X dLaw_1005 (by decide) ?_
  refine r_iadd (pc := 1006) X dLaw_1006 ?_
  refine r_sld (pc := 1007) X dLaw_1007 (nI_add _ _) (by omega) (by omega) ?_
  refine r_c0_3G (pc := 1008) X rfl dLaw_1008 tc_9_139 mm_X7_act (kc_23 C) rfl rfl (k_act d _ _ _ R O) (Nat.le_of_ble_eq_true rfl) (fun v1 h1 q1 => ?_)
  obtain ⟨rfl, g, M1, rfl, R1, m1, e1⟩ := lw_c1 q1 m
  have C1 := R1.C
  have hs1 : 2 * h_s g + 103 * 123 ≤ 2 * 2852 + 103 * h_n g := by
    have a1 : h_n g = h_n h := congrArg Prod.fst e1
    have a2 : h_s g = h_s h := congrArg Prod.snd e1
    omega
  show GG w κ _ _ (Value.int _ :: []) _
  refine r_aload_n (pc := 1011) X dLaw_1011 rfl ?_
  refine r_aload_n (pc := 1012) X dLaw_1012 rfl ?_
  refine r_iload_n (pc := 1013) X dLaw_1013 rfl ?_
  refine r_iconst (pc := 1014) (v := (nI 1)) X dLaw_1014 (by decide) ?_
  refine r_iadd (pc := 1015) X dLaw_1015 ?_
  refine r_sld (pc := 1016) X dLaw_1016 (nI_add _ _) (by omega) (by omega) ?_
  refine r_aload_n (pc := 1017) X dLaw_1017 rfl ?_
  refine r_iload_n (pc := 1018) X dLaw_1018 rfl ?_
  refine r_iconst (pc := 1019) (v := (nI 2)) X dLaw_1019 (by decide) ?_
  refine r_iadd (pc := 1020) X dLaw_1020 ?_
  refine r_sld (pc := 1021) X dLaw_1021 (nI_add _ _) (by omega) (by omega) ?_
  refine r_aload_n (pc := 1022) X dLaw_1022 rfl ?_
  refine r_iload_n (pc := 1023) X dLaw_1023 rfl ?_
  refine r_iconst (pc := 1024) (v := (nI 3)) X dLaw_1024 (by decide) ?_
  refine r_iadd (pc := 1025) X dLaw_1025 ?_
  refine r_sld (pc := 1026) X dLaw_1026 (nI_add _ _) (by omega) (by omega) ?_
  refine r_c0_3G (pc := 1027) X rfl dLaw_1027 tc_9_142 mm_X8_act (kc_80 C1) rfl rfl (n_act (d + 21) _ _ _ C1 m1 O) (Nat.le_of_ble_eq_true rfl) (fun v2 h2 q2 => ?_)
  obtain ⟨rfl, I2⟩ := lw_c2 (B := B + 2) (S := 2852) R1 q2 (o_act _ _ _ O (by omega)) hs1
  show GG w κ _ _ (Value.int _ :: Value.int _ :: []) _
  exact r_icmp_eq (pc := 1030) X dLaw_1030 (tgt := 1327) (by decide) (fun _ => next _ I2) (fun c => absurd rfl c)
set_option maxRecDepth 10000 in
set_option maxHeartbeats 4000000 in
theorem lw_trace {w : wc_T} {κ : cx_T} {d B j : Nat} {Φ : Option Value → hp_T → Prop} (X : CX w κ (d + 31) 9 code 4 ret Φ) (hκ : k_1 κ = (135, 3491)) (hj : 6 * j + 6 ≤ w.2.2.2.2.2.1) (hN : w.2.2.2.2.2.1 ≤ 3072) (hB : B ≤ 9000) {h : hp_T} (I : Inv B 2852 h) (next : ∀ h1, Inv (B + 2) 2852 h1 → GG w κ 1327 [some (.ref 0), some (.ref 23), some (.ref 80), some (.int (nI (6 * j)))] [] h1) : GG w κ 1035 [some (.ref 0), some (.ref 23), some (.ref 80), some (.int (nI (6 * j)))] [] h := by
  obtain ⟨σ, R, m, O, hs⟩ := I
  have C := R.C
  show GG w κ _ _ _ (wi h (h_i h))
  refine r_aload_n (pc := 1035) X dLaw_1035 rfl ?_
  refine r_aload_n (pc := 1036) X dLaw_1036 rfl ?_
  refine r_iload_n (pc := 1037) X dLaw_1037 rfl ?_
  refine r_iconst (pc := 1038) (v := (nI 1)) X dLaw_1038 (by decide) ?_
  refine r_iadd (pc := 1039) X dLaw_1039 ?_
  refine r_sld (pc := 1040) X dLaw_1040 (nI_add _ _) (by omega) (by omega) ?_
  refine r_c0_1G (pc := 1041) X rfl dLaw_1041 tc_9_143 mm_X7_trace (kc_23 C) rfl rfl (k_trace d _ R O) (Nat.le_of_ble_eq_true rfl) (fun v1 h1 q1 => ?_)
  obtain ⟨rfl, g, M1, rfl, R1, m1, e1⟩ := lw_c1 q1 m
  have C1 := R1.C
  have hs1 : 2 * h_s g + 103 * 123 ≤ 2 * 2852 + 103 * h_n g := by
    have a1 : h_n g = h_n h := congrArg Prod.fst e1
    have a2 : h_s g = h_s h := congrArg Prod.snd e1
    omega
  show GG w κ _ _ (Value.int _ :: []) _
  refine r_aload_n (pc := 1044) X dLaw_1044 rfl ?_
  refine r_aload_n (pc := 1045) X dLaw_1045 rfl ?_
  refine r_iload_n (pc := 1046) X dLaw_1046 rfl ?_
  refine r_iconst (pc := 1047) (v := (nI 1)) X dLaw_1047 (by decide) ?_
  refine r_iadd (pc := 1048) X dLaw_1048 ?_
  refine r_sld (pc := 1049) X dLaw_1049 (nI_add _ _) (by omega) (by omega) ?_
  refine r_c0_1G (pc := 1050) X rfl dLaw_1050 tc_9_146 mm_X8_trace (kc_80 C1) rfl rfl (n_trace (d + 21) _ C1 m1 O) (Nat.le_of_ble_eq_true rfl) (fun v2 h2 q2 => ?_)
  obtain ⟨rfl, I2⟩ := lw_c2 (B := B + 2) (S := 2852) R1 q2 (o_trace _ O (by omega)) hs1
  show GG w κ _ _ (Value.int _ :: Value.int _ :: []) _
  exact r_icmp_eq (pc := 1053) X dLaw_1053 (tgt := 1327) (by decide) (fun _ => next _ I2) (fun c => absurd rfl c)
set_option maxRecDepth 10000 in
set_option maxHeartbeats 4000000 in
theorem lw_taken {w : wc_T} {κ : cx_T} {d B j : Nat} {Φ : Option Value → hp_T → Prop} (X : CX w κ (d + 31) 9 code 4 ret Φ) (hκ : k_1 κ = (135, 3491)) (hj : 6 * j + 6 ≤ w.2.2.2.2.2.1) (hN : w.2.2.2.2.2.1 ≤ 3072) (hB : B ≤ 9000) {h : hp_T} (I : Inv B 2852 h) (next : ∀ h1, Inv (B + 2) 2852 h1 → GG w κ 1327 [some (.ref 0), some (.ref 23), some (.ref 80), some (.int (nI (6 * j)))] [] h1) : GG w κ 1058 [some (.ref 0), some (.ref 23), some (.ref 80), some (.int (nI (6 * j)))] [] h := by
  obtain ⟨σ, R, m, O, hs⟩ := I
  have C := R.C
  show GG w κ _ _ _ (wi h (h_i h))
  refine r_aload_n (pc := 1058) X dLaw_1058 rfl ?_
  refine r_aload_n (pc := 1059) X dLaw_1059 rfl ?_
  refine r_iload_n (pc := 1060) X dLaw_1060 rfl ?_
  refine r_iconst (pc := 1061) (v := (nI 1)) X dLaw_1061 (by decide) ?_
  refine r_iadd (pc := 1062) X dLaw_1062 ?_
  refine r_sld (pc := 1063) X dLaw_1063 (nI_add _ _) (by omega) (by omega) ?_
  refine r_aload_n (pc := 1064) X dLaw_1064 rfl ?_
  refine r_iload_n (pc := 1065) X dLaw_1065 rfl ?_
  refine r_iconst (pc := 1066) (v := (nI 2)) X dLaw_1066 (by decide) ?_
  refine r_iadd (pc := 1067) X dLaw_1067 ?_
  refine r_sld (pc := 1068) X dLaw_1068 (nI_add _ _) (by omega) (by omega) ?_
  refine r_c0_2G (pc := 1069) X rfl dLaw_1069 tc_9_147 mm_X7_taken (kc_23 C) rfl rfl (k_taken (d + 22) _ _ R O) (Nat.le_of_ble_eq_true rfl) (fun v1 h1 q1 => ?_)
  obtain ⟨rfl, g, M1, rfl, R1, m1, e1⟩ := lw_c1 q1 m
  have C1 := R1.C
  have hs1 : 2 * h_s g + 103 * 123 ≤ 2 * 2852 + 103 * h_n g := by
    have a1 : h_n g = h_n h := congrArg Prod.fst e1
    have a2 : h_s g = h_s h := congrArg Prod.snd e1
    omega
  show GG w κ _ _ (Value.int _ :: []) _
  refine r_aload_n (pc := 1072) X dLaw_1072 rfl ?_
  refine r_aload_n (pc := 1073) X dLaw_1073 rfl ?_
  refine r_iload_n (pc := 1074) X dLaw_1074 rfl ?_
  refine r_iconst (pc := 1075) (v := (nI 1)) X dLaw_1075 (by decide) ?_
  refine r_iadd (pc := 1076) X dLaw_1076 ?_
  refine r_sld (pc := 1077) X dLaw_1077 (nI_add _ _) (by omega) (by omega) ?_
  refine r_aload_n (pc := 1078) X dLaw_1078 rfl ?_
  refine r_iload_n (pc := 1079) X dLaw_1079 rfl ?_
  refine r_iconst (pc := 1080) (v := (nI 2)) X dLaw_1080 (by decide) ?_
  refine r_iadd (pc := 1081) X dLaw_1081 ?_
  refine r_sld (pc := 1082) X dLaw_1082 (nI_add _ _) (by omega) (by omega) ?_
  refine r_c0_2G (pc := 1083) X rfl dLaw_1083 tc_9_150 mm_X8_taken (kc_80 C1) rfl rfl (n_taken (d + 21) _ _ C1 m1 O) (Nat.le_of_ble_eq_true rfl) (fun v2 h2 q2 => ?_)
  obtain ⟨rfl, I2⟩ := lw_c2 (B := B + 2) (S := 2852) R1 q2 (o_taken _ _ O (by omega)) hs1
  show GG w κ _ _ (Value.int _ :: Value.int _ :: []) _
  exact r_icmp_eq (pc := 1086) X dLaw_1086 (tgt := 1327) (by decide) (fun _ => next _ I2) (fun c => absurd rfl c)
set_option maxRecDepth 10000 in
set_option maxHeartbeats 4000000 in
theorem lw_count {w : wc_T} {κ : cx_T} {d B j : Nat} {Φ : Option Value → hp_T → Prop} (X : CX w κ (d + 31) 9 code 4 ret Φ) (hκ : k_1 κ = (135, 3491)) (hj : 6 * j + 6 ≤ w.2.2.2.2.2.1) (hN : w.2.2.2.2.2.1 ≤ 3072) (hB : B ≤ 9000) {h : hp_T} (I : Inv B 2852 h) (next : ∀ h1, Inv (B + 2) 2852 h1 → GG w κ 1327 [some (.ref 0), some (.ref 23), some (.ref 80), some (.int (nI (6 * j)))] [] h1) : GG w κ 1091 [some (.ref 0), some (.ref 23), some (.ref 80), some (.int (nI (6 * j)))] [] h := by
  obtain ⟨σ, R, m, O, hs⟩ := I
  have C := R.C
  show GG w κ _ _ _ (wi h (h_i h))
  refine r_aload_n (pc := 1091) X dLaw_1091 rfl ?_
  refine r_aload_n (pc := 1092) X dLaw_1092 rfl ?_
  refine r_iload_n (pc := 1093) X dLaw_1093 rfl ?_
  refine r_iconst (pc := 1094) (v := (nI 1)) X dLaw_1094 (by decide) ?_
  refine r_iadd (pc := 1095) X dLaw_1095 ?_
  refine r_sld (pc := 1096) X dLaw_1096 (nI_add _ _) (by omega) (by omega) ?_
  refine r_c0_1G (pc := 1097) X rfl dLaw_1097 tc_9_151 mm_X7_count (kc_23 C) rfl rfl (k_count (d + 22) _ R O) (Nat.le_of_ble_eq_true rfl) (fun v1 h1 q1 => ?_)
  obtain ⟨rfl, g, M1, rfl, R1, m1, e1⟩ := lw_c1 q1 m
  have C1 := R1.C
  have hs1 : 2 * h_s g + 103 * 123 ≤ 2 * 2852 + 103 * h_n g := by
    have a1 : h_n g = h_n h := congrArg Prod.fst e1
    have a2 : h_s g = h_s h := congrArg Prod.snd e1
    omega
  show GG w κ _ _ (Value.int _ :: []) _
  refine r_aload_n (pc := 1100) X dLaw_1100 rfl ?_
  refine r_aload_n (pc := 1101) X dLaw_1101 rfl ?_
  refine r_iload_n (pc := 1102) X dLaw_1102 rfl ?_
  refine r_iconst (pc := 1103) (v := (nI 1)) X dLaw_1103 (by decide) ?_
  refine r_iadd (pc := 1104) X dLaw_1104 ?_
  refine r_sld (pc := 1105) X dLaw_1105 (nI_add _ _) (by omega) (by omega) ?_
  refine r_c0_1G (pc := 1106) X rfl dLaw_1106 tc_9_154 mm_X8_count (kc_80 C1) rfl rfl (n_count (d + 21) _ C1 m1 O) (Nat.le_of_ble_eq_true rfl) (fun v2 h2 q2 => ?_)
  obtain ⟨rfl, I2⟩ := lw_c2 (B := B + 2) (S := 2852) R1 q2 (o_count _ O (by omega)) hs1
  show GG w κ _ _ (Value.int _ :: Value.int _ :: []) _
  exact r_icmp_eq (pc := 1109) X dLaw_1109 (tgt := 1327) (by decide) (fun _ => next _ I2) (fun c => absurd rfl c)
set_option maxRecDepth 10000 in
set_option maxHeartbeats 4000000 in
theorem lw_tape {w : wc_T} {κ : cx_T} {d B j : Nat} {Φ : Option Value → hp_T → Prop} (X : CX w κ (d + 31) 9 code 4 ret Φ) (hκ : k_1 κ = (135, 3491)) (hj : 6 * j + 6 ≤ w.2.2.2.2.2.1) (hN : w.2.2.2.2.2.1 ≤ 3072) (hB : B ≤ 9000) {h : hp_T} (I : Inv B 2852 h) (next : ∀ h1, Inv (B + 2) 2852 h1 → GG w κ 1327 [some (.ref 0), some (.ref 23), some (.ref 80), some (.int (nI (6 * j)))] [] h1) : GG w κ 1114 [some (.ref 0), some (.ref 23), some (.ref 80), some (.int (nI (6 * j)))] [] h := by
  obtain ⟨σ, R, m, O, hs⟩ := I
  have C := R.C
  show GG w κ _ _ _ (wi h (h_i h))
  refine r_aload_n (pc := 1114) X dLaw_1114 rfl ?_
  refine r_aload_n (pc := 1115) X dLaw_1115 rfl ?_
  refine r_iload_n (pc := 1116) X dLaw_1116 rfl ?_
  refine r_iconst (pc := 1117) (v := (nI 1)) X dLaw_1117 (by decide) ?_
  refine r_iadd (pc := 1118) X dLaw_1118 ?_
  refine r_sld (pc := 1119) X dLaw_1119 (nI_add _ _) (by omega) (by omega) ?_
  refine r_aload_n (pc := 1120) X dLaw_1120 rfl ?_
  refine r_iload_n (pc := 1121) X dLaw_1121 rfl ?_
  refine r_iconst (pc := 1122) (v := (nI 2)) X dLaw_1122 (by decide) ?_
  refine r_iadd (pc := 1123) X dLaw_1123 ?_
  refine r_sld (pc := 1124) X dLaw_1124 (nI_add _ _) (by omega) (by omega) ?_
  refine r_aload_n (pc := 1125) X dLaw_1125 rfl ?_
  refine r_iload_n (pc := 1126) X dLaw_1126 rfl ?_
  refine r_iconst (pc := 1127) (v := (nI 3)) X dLaw_1127 (by decide) ?_
  refine r_iadd (pc := 1128) X dLaw_1128 ?_
  refine r_sld (pc := 1129) X dLaw_1129 (nI_add _ _) (by omega) (by omega) ?_
  refine r_c0_3G (pc := 1130) X rfl dLaw_1130 tc_9_155 mm_X7_tape (kc_23 C) rfl rfl (k_tape (d + 22) _ _ _ R O) (Nat.le_of_ble_eq_true rfl) (fun v1 h1 q1 => ?_)
  obtain ⟨rfl, g, M1, rfl, R1, m1, e1⟩ := lw_c1 q1 m
  have C1 := R1.C
  have hs1 : 2 * h_s g + 103 * 123 ≤ 2 * 2852 + 103 * h_n g := by
    have a1 : h_n g = h_n h := congrArg Prod.fst e1
    have a2 : h_s g = h_s h := congrArg Prod.snd e1
    omega
  show GG w κ _ _ (Value.int _ :: []) _
  refine r_aload_n (pc := 1133) X dLaw_1133 rfl ?_
  refine r_aload_n (pc := 1134) X dLaw_1134 rfl ?_
  refine r_iload_n (pc := 1135) X dLaw_1135 rfl ?_
  refine r_iconst (pc := 1136) (v := (nI 1)) X dLaw_1136 (by decide) ?_
  refine r_iadd (pc := 1137) X dLaw_1137 ?_
  refine r_sld (pc := 1138) X dLaw_1138 (nI_add _ _) (by omega) (by omega) ?_
  refine r_aload_n (pc := 1139) X dLaw_1139 rfl ?_
  refine r_iload_n (pc := 1140) X dLaw_1140 rfl ?_
  refine r_iconst (pc := 1141) (v := (nI 2)) X dLaw_1141 (by decide) ?_
  refine r_iadd (pc := 1142) X dLaw_1142 ?_
  refine r_sld (pc := 1143) X dLaw_1143 (nI_add _ _) (by omega) (by omega) ?_
  refine r_aload_n (pc := 1144) X dLaw_1144 rfl ?_
  refine r_iload_n (pc := 1145) X dLaw_1145 rfl ?_
  refine r_iconst (pc := 1146) (v := (nI 3)) X dLaw_1146 (by decide) ?_
  refine r_iadd (pc := 1147) X dLaw_1147 ?_
  refine r_sld (pc := 1148) X dLaw_1148 (nI_add _ _) (by omega) (by omega) ?_
  refine r_c0_3G (pc := 1149) X rfl dLaw_1149 tc_9_158 mm_X8_tape (kc_80 C1) rfl rfl (n_tape (d + 21) _ _ _ (h := g) (Lo := h_l g) C1 m1 O) (Nat.le_of_ble_eq_true rfl) (fun v2 h2 q2 => ?_)
  obtain ⟨rfl, I2⟩ := lw_c2 (B := B + 2) (S := 2852) R1 q2 (o_tape _ _ _ O (by omega)) hs1
  show GG w κ _ _ (Value.int _ :: Value.int _ :: []) _
  exact r_icmp_eq (pc := 1152) X dLaw_1152 (tgt := 1327) (by decide) (fun _ => next _ I2) (fun c => absurd rfl c)
set_option maxRecDepth 10000 in
set_option maxHeartbeats 4000000 in
theorem lw_item {w : wc_T} {κ : cx_T} {d B j : Nat} {Φ : Option Value → hp_T → Prop} (X : CX w κ (d + 31) 9 code 4 ret Φ) (hκ : k_1 κ = (135, 3491)) (hj : 6 * j + 6 ≤ w.2.2.2.2.2.1) (hN : w.2.2.2.2.2.1 ≤ 3072) (hB : B ≤ 9000) {h : hp_T} (I : Inv B 2852 h) (next : ∀ h1, Inv (B + 2) 2852 h1 → GG w κ 1327 [some (.ref 0), some (.ref 23), some (.ref 80), some (.int (nI (6 * j)))] [] h1) : GG w κ 1157 [some (.ref 0), some (.ref 23), some (.ref 80), some (.int (nI (6 * j)))] [] h := by
  obtain ⟨σ, R, m, O, hs⟩ := I
  have C := R.C
  show GG w κ _ _ _ (wi h (h_i h))
  refine r_aload_n (pc := 1157) X dLaw_1157 rfl ?_
  refine r_aload_n (pc := 1158) X dLaw_1158 rfl ?_
  refine r_iload_n (pc := 1159) X dLaw_1159 rfl ?_
  refine r_iconst (pc := 1160) (v := (nI 1)) X dLaw_1160 (by decide) ?_
  refine r_iadd (pc := 1161) X dLaw_1161 ?_
  refine r_sld (pc := 1162) X dLaw_1162 (nI_add _ _) (by omega) (by omega) ?_
  refine r_aload_n (pc := 1163) X dLaw_1163 rfl ?_
  refine r_iload_n (pc := 1164) X dLaw_1164 rfl ?_
  refine r_iconst (pc := 1165) (v := (nI 2)) X dLaw_1165 (by decide) ?_
  refine r_iadd (pc := 1166) X dLaw_1166 ?_
  refine r_sld (pc := 1167) X dLaw_1167 (nI_add _ _) (by omega) (by omega) ?_
  refine r_aload_n (pc := 1168) X dLaw_1168 rfl ?_
  refine r_iload_n (pc := 1169) X dLaw_1169 rfl ?_
  refine r_iconst (pc := 1170) (v := (nI 3)) X dLaw_1170 (by decide) ?_
  refine r_iadd (pc := 1171) X dLaw_1171 ?_
  refine r_sld (pc := 1172) X dLaw_1172 (nI_add _ _) (by omega) (by omega) ?_
  refine r_i2l (pc := 1173) X dLaw_1173 rfl ?_
  refine r_bipush (pc := 1174) (v := (nI 32)) X dLaw_1174 (by decide) ?_
  refine r_lshl (pc := 1176) X dLaw_1176 rfl ?_
  refine r_aload_n (pc := 1177) X dLaw_1177 rfl ?_
  refine r_iload_n (pc := 1178) X dLaw_1178 rfl ?_
  refine r_iconst (pc := 1179) (v := (nI 4)) X dLaw_1179 (by decide) ?_
  refine r_iadd (pc := 1180) X dLaw_1180 ?_
  refine r_sld (pc := 1181) X dLaw_1181 (nI_add _ _) (by omega) (by omega) ?_
  refine r_i2l (pc := 1182) X dLaw_1182 rfl ?_
  refine r_ldc2 (pc := 1183) (v := 4294967295) X dLaw_1183 tk_9_159 ?_
  refine r_land (pc := 1186) X dLaw_1186 ?_
  refine r_lor (pc := 1187) X dLaw_1187 ?_
  refine r_c0_3G (pc := 1188) X rfl dLaw_1188 tc_9_161 mm_X7_item (kc_23 C) rfl rfl (k_item (d + 22) _ _ _ R O) (Nat.le_of_ble_eq_true rfl) (fun v1 h1 q1 => ?_)
  obtain ⟨rfl, g, M1, rfl, R1, m1, e1⟩ := lw_c1 q1 m
  have C1 := R1.C
  have hs1 : 2 * h_s g + 103 * 123 ≤ 2 * 2852 + 103 * h_n g := by
    have a1 : h_n g = h_n h := congrArg Prod.fst e1
    have a2 : h_s g = h_s h := congrArg Prod.snd e1
    omega
  show GG w κ _ _ (Value.int _ :: []) _
  refine r_aload_n (pc := 1191) X dLaw_1191 rfl ?_
  refine r_aload_n (pc := 1192) X dLaw_1192 rfl ?_
  refine r_iload_n (pc := 1193) X dLaw_1193 rfl ?_
  refine r_iconst (pc := 1194) (v := (nI 1)) X dLaw_1194 (by decide) ?_
  refine r_iadd (pc := 1195) X dLaw_1195 ?_
  refine r_sld (pc := 1196) X dLaw_1196 (nI_add _ _) (by omega) (by omega) ?_
  refine r_aload_n (pc := 1197) X dLaw_1197 rfl ?_
  refine r_iload_n (pc := 1198) X dLaw_1198 rfl ?_
  refine r_iconst (pc := 1199) (v := (nI 2)) X dLaw_1199 (by decide) ?_
  refine r_iadd (pc := 1200) X dLaw_1200 ?_
  refine r_sld (pc := 1201) X dLaw_1201 (nI_add _ _) (by omega) (by omega) ?_
  refine r_aload_n (pc := 1202) X dLaw_1202 rfl ?_
  refine r_iload_n (pc := 1203) X dLaw_1203 rfl ?_
  refine r_iconst (pc := 1204) (v := (nI 3)) X dLaw_1204 (by decide) ?_
  refine r_iadd (pc := 1205) X dLaw_1205 ?_
  refine r_sld (pc := 1206) X dLaw_1206 (nI_add _ _) (by omega) (by omega) ?_
  refine r_i2l (pc := 1207) X dLaw_1207 rfl ?_
  refine r_bipush (pc := 1208) (v := (nI 32)) X dLaw_1208 (by decide) ?_
  refine r_lshl (pc := 1210) X dLaw_1210 rfl ?_
  refine r_aload_n (pc := 1211) X dLaw_1211 rfl ?_
  refine r_iload_n (pc := 1212) X dLaw_1212 rfl ?_
  refine r_iconst (pc := 1213) (v := (nI 4)) X dLaw_1213 (by decide) ?_
  refine r_iadd (pc := 1214) X dLaw_1214 ?_
  refine r_sld (pc := 1215) X dLaw_1215 (nI_add _ _) (by omega) (by omega) ?_
  refine r_i2l (pc := 1216) X dLaw_1216 rfl ?_
  refine r_ldc2 (pc := 1217) (v := 4294967295) X dLaw_1217 tk_9_159 ?_
  refine r_land (pc := 1220) X dLaw_1220 ?_
  refine r_lor (pc := 1221) X dLaw_1221 ?_
  refine r_c0_3G (pc := 1222) X rfl dLaw_1222 tc_9_165 mm_X8_item (kc_80 C1) rfl rfl (n_item (d + 21) _ _ _ (h := g) (Lo := h_l g) C1 m1 O) (Nat.le_of_ble_eq_true rfl) (fun v2 h2 q2 => ?_)
  obtain ⟨rfl, I2⟩ := lw_c2 (B := B + 2) (S := 2852) R1 q2 (o_item _ _ _ O (by omega)) hs1
  show GG w κ _ _ (Value.int _ :: Value.int _ :: []) _
  exact r_icmp_eq (pc := 1225) X dLaw_1225 (tgt := 1327) (by decide) (fun _ => next _ I2) (fun c => absurd rfl c)
set_option maxRecDepth 10000 in
set_option maxHeartbeats 4000000 in
theorem lw_read {w : wc_T} {κ : cx_T} {d B j : Nat} {Φ : Option Value → hp_T → Prop} (X : CX w κ (d + 31) 9 code 4 ret Φ) (hκ : k_1 κ = (135, 3491)) (hj : 6 * j + 6 ≤ w.2.2.2.2.2.1) (hN : w.2.2.2.2.2.1 ≤ 3072) (hB : B ≤ 9000) {h : hp_T} (I : Inv B 2852 h) (next : ∀ h1, Inv (B + 2) 2852 h1 → GG w κ 1327 [some (.ref 0), some (.ref 23), some (.ref 80), some (.int (nI (6 * j)))] [] h1) : GG w κ 1230 [some (.ref 0), some (.ref 23), some (.ref 80), some (.int (nI (6 * j)))] [] h := by
  obtain ⟨σ, R, m, O, hs⟩ := I
  have C := R.C
  show GG w κ _ _ _ (wi h (h_i h))
  refine r_aload_n (pc := 1230) X dLaw_1230 rfl ?_
  refine r_aload_n (pc := 1231) X dLaw_1231 rfl ?_
  refine r_iload_n (pc := 1232) X dLaw_1232 rfl ?_
  refine r_iconst (pc := 1233) (v := (nI 1)) X dLaw_1233 (by decide) ?_
  refine r_iadd (pc := 1234) X dLaw_1234 ?_
  refine r_sld (pc := 1235) X dLaw_1235 (nI_add _ _) (by omega) (by omega) ?_
  refine r_aload_n (pc := 1236) X dLaw_1236 rfl ?_
  refine r_iload_n (pc := 1237) X dLaw_1237 rfl ?_
  refine r_iconst (pc := 1238) (v := (nI 2)) X dLaw_1238 (by decide) ?_
  refine r_iadd (pc := 1239) X dLaw_1239 ?_
  refine r_sld (pc := 1240) X dLaw_1240 (nI_add _ _) (by omega) (by omega) ?_
  refine r_c0_2G (pc := 1241) X rfl dLaw_1241 tc_9_166 mm_X7_read (kc_23 C) rfl rfl (k_read (d + 22) _ _ R O) (Nat.le_of_ble_eq_true rfl) (fun v1 h1 q1 => ?_)
  obtain ⟨rfl, g, M1, rfl, R1, m1, e1⟩ := lw_l1 q1 m
  have C1 := R1.C
  have hs1 : 2 * h_s g + 103 * 123 ≤ 2 * 2852 + 103 * h_n g := by
    have a1 : h_n g = h_n h := congrArg Prod.fst e1
    have a2 : h_s g = h_s h := congrArg Prod.snd e1
    omega
  show GG w κ _ _ (Value.long _ :: []) _
  refine r_aload_n (pc := 1244) X dLaw_1244 rfl ?_
  refine r_aload_n (pc := 1245) X dLaw_1245 rfl ?_
  refine r_iload_n (pc := 1246) X dLaw_1246 rfl ?_
  refine r_iconst (pc := 1247) (v := (nI 1)) X dLaw_1247 (by decide) ?_
  refine r_iadd (pc := 1248) X dLaw_1248 ?_
  refine r_sld (pc := 1249) X dLaw_1249 (nI_add _ _) (by omega) (by omega) ?_
  refine r_aload_n (pc := 1250) X dLaw_1250 rfl ?_
  refine r_iload_n (pc := 1251) X dLaw_1251 rfl ?_
  refine r_iconst (pc := 1252) (v := (nI 2)) X dLaw_1252 (by decide) ?_
  refine r_iadd (pc := 1253) X dLaw_1253 ?_
  refine r_sld (pc := 1254) X dLaw_1254 (nI_add _ _) (by omega) (by omega) ?_
  refine r_c0_2G (pc := 1255) X rfl dLaw_1255 tc_9_169 mm_X8_read (kc_80 C1) rfl rfl (n_read (d + 21) _ _ C1 m1 O) (Nat.le_of_ble_eq_true rfl) (fun v2 h2 q2 => ?_)
  obtain ⟨rfl, I2⟩ := lw_l2 (B := B + 2) (S := 2852) R1 q2 (o_read _ _ O (by omega)) hs1
  show GG w κ _ _ (Value.long _ :: Value.long _ :: []) _
  refine r_lcmp (pc := 1258) X dLaw_1258 ?_
  exact r_if_eq (pc := 1259) X dLaw_1259 (tgt := 1327) (by decide) (fun _ => next _ I2) (fun c => absurd (lg_eq0.mpr rfl) c)
set_option maxRecDepth 10000 in
set_option maxHeartbeats 4000000 in
theorem lw_shift {w : wc_T} {κ : cx_T} {d B j : Nat} {Φ : Option Value → hp_T → Prop} (X : CX w κ (d + 31) 9 code 4 ret Φ) (hκ : k_1 κ = (135, 3491)) (hj : 6 * j + 6 ≤ w.2.2.2.2.2.1) (hN : w.2.2.2.2.2.1 ≤ 3072) (hB : B ≤ 9000) {h : hp_T} (I : Inv B 2852 h) (next : ∀ h1, Inv (B + 2) 2852 h1 → GG w κ 1327 [some (.ref 0), some (.ref 23), some (.ref 80), some (.int (nI (6 * j)))] [] h1) : GG w κ 1264 [some (.ref 0), some (.ref 23), some (.ref 80), some (.int (nI (6 * j)))] [] h := by
  obtain ⟨σ, R, m, O, hs⟩ := I
  have C := R.C
  show GG w κ _ _ _ (wi h (h_i h))
  refine r_aload_n (pc := 1264) X dLaw_1264 rfl ?_
  refine r_aload_n (pc := 1265) X dLaw_1265 rfl ?_
  refine r_iload_n (pc := 1266) X dLaw_1266 rfl ?_
  refine r_iconst (pc := 1267) (v := (nI 1)) X dLaw_1267 (by decide) ?_
  refine r_iadd (pc := 1268) X dLaw_1268 ?_
  refine r_sld (pc := 1269) X dLaw_1269 (nI_add _ _) (by omega) (by omega) ?_
  refine r_aload_n (pc := 1270) X dLaw_1270 rfl ?_
  refine r_iload_n (pc := 1271) X dLaw_1271 rfl ?_
  refine r_iconst (pc := 1272) (v := (nI 2)) X dLaw_1272 (by decide) ?_
  refine r_iadd (pc := 1273) X dLaw_1273 ?_
  refine r_sld (pc := 1274) X dLaw_1274 (nI_add _ _) (by omega) (by omega) ?_
  refine r_aload_n (pc := 1275) X dLaw_1275 rfl ?_
  refine r_iload_n (pc := 1276) X dLaw_1276 rfl ?_
  refine r_iconst (pc := 1277) (v := (nI 3)) X dLaw_1277 (by decide) ?_
  refine r_iadd (pc := 1278) X dLaw_1278 ?_
  refine r_sld (pc := 1279) X dLaw_1279 (nI_add _ _) (by omega) (by omega) ?_
  refine r_aload_n (pc := 1280) X dLaw_1280 rfl ?_
  refine r_iload_n (pc := 1281) X dLaw_1281 rfl ?_
  refine r_iconst (pc := 1282) (v := (nI 4)) X dLaw_1282 (by decide) ?_
  refine r_iadd (pc := 1283) X dLaw_1283 ?_
  refine r_sld (pc := 1284) X dLaw_1284 (nI_add _ _) (by omega) (by omega) ?_
  refine r_aload_n (pc := 1285) X dLaw_1285 rfl ?_
  refine r_iload_n (pc := 1286) X dLaw_1286 rfl ?_
  refine r_iconst (pc := 1287) (v := (nI 5)) X dLaw_1287 (by decide) ?_
  refine r_iadd (pc := 1288) X dLaw_1288 ?_
  refine r_sld (pc := 1289) X dLaw_1289 (nI_add _ _) (by omega) (by omega) ?_
  refine r_c0_5G (pc := 1290) X rfl dLaw_1290 tc_9_170 mm_X7_shift (kc_23 C) rfl rfl (k_shift (d + 22) _ _ _ _ _ R O) (Nat.le_of_ble_eq_true rfl) (fun v1 h1 q1 => ?_)
  obtain ⟨rfl, g, M1, rfl, R1, m1, e1⟩ := lw_c1 q1 m
  have C1 := R1.C
  have hs1 : 2 * h_s g + 103 * 123 ≤ 2 * 2852 + 103 * h_n g := by
    have a1 : h_n g = h_n h := congrArg Prod.fst e1
    have a2 : h_s g = h_s h := congrArg Prod.snd e1
    omega
  show GG w κ _ _ (Value.int _ :: []) _
  refine r_aload_n (pc := 1293) X dLaw_1293 rfl ?_
  refine r_aload_n (pc := 1294) X dLaw_1294 rfl ?_
  refine r_iload_n (pc := 1295) X dLaw_1295 rfl ?_
  refine r_iconst (pc := 1296) (v := (nI 1)) X dLaw_1296 (by decide) ?_
  refine r_iadd (pc := 1297) X dLaw_1297 ?_
  refine r_sld (pc := 1298) X dLaw_1298 (nI_add _ _) (by omega) (by omega) ?_
  refine r_aload_n (pc := 1299) X dLaw_1299 rfl ?_
  refine r_iload_n (pc := 1300) X dLaw_1300 rfl ?_
  refine r_iconst (pc := 1301) (v := (nI 2)) X dLaw_1301 (by decide) ?_
  refine r_iadd (pc := 1302) X dLaw_1302 ?_
  refine r_sld (pc := 1303) X dLaw_1303 (nI_add _ _) (by omega) (by omega) ?_
  refine r_aload_n (pc := 1304) X dLaw_1304 rfl ?_
  refine r_iload_n (pc := 1305) X dLaw_1305 rfl ?_
  refine r_iconst (pc := 1306) (v := (nI 3)) X dLaw_1306 (by decide) ?_
  refine r_iadd (pc := 1307) X dLaw_1307 ?_
  refine r_sld (pc := 1308) X dLaw_1308 (nI_add _ _) (by omega) (by omega) ?_
  refine r_aload_n (pc := 1309) X dLaw_1309 rfl ?_
  refine r_iload_n (pc := 1310) X dLaw_1310 rfl ?_
  refine r_iconst (pc := 1311) (v := (nI 4)) X dLaw_1311 (by decide) ?_
  refine r_iadd (pc := 1312) X dLaw_1312 ?_
  refine r_sld (pc := 1313) X dLaw_1313 (nI_add _ _) (by omega) (by omega) ?_
  refine r_aload_n (pc := 1314) X dLaw_1314 rfl ?_
  refine r_iload_n (pc := 1315) X dLaw_1315 rfl ?_
  refine r_iconst (pc := 1316) (v := (nI 5)) X dLaw_1316 (by decide) ?_
  refine r_iadd (pc := 1317) X dLaw_1317 ?_
  refine r_sld (pc := 1318) X dLaw_1318 (nI_add _ _) (by omega) (by omega) ?_
  refine r_c0_5G (pc := 1319) X rfl dLaw_1319 tc_9_174 mm_X8_shift (kc_80 C1) rfl rfl (n_shift (d + 21) _ _ _ _ _ (h := g) (Lo := h_l g) C1 m1 O) (Nat.le_of_ble_eq_true rfl) (fun v2 h2 q2 => ?_)
  obtain ⟨rfl, I2⟩ := lw_c2 (B := B + 2) (S := 2852) R1 q2 (o_shift _ _ _ _ _ O (by omega)) hs1
  show GG w κ _ _ (Value.int _ :: Value.int _ :: []) _
  exact r_icmp_eq (pc := 1322) X dLaw_1322 (tgt := 1327) (by decide) (fun _ => next _ I2) (fun c => absurd rfl c)
