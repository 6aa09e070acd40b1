/-! the law: its rows -/
theorem dLaw_0 : decode code 0 = .ok (.new 7, 3) := by decide +kernel
theorem dLaw_3 : decode code 3 = .ok (.dup, 1) := by decide +kernel
theorem dLaw_4 : decode code 4 = .ok (.invokespecial 9, 3) := by decide +kernel
theorem dLaw_7 : decode code 7 = .ok (.astore_n 1, 1) := by decide +kernel
theorem dLaw_8 : decode code 8 = .ok (.new 10, 3) := by decide +kernel
theorem dLaw_11 : decode code 11 = .ok (.dup, 1) := by decide +kernel
theorem dLaw_12 : decode code 12 = .ok (.invokespecial 12, 3) := by decide +kernel
theorem dLaw_15 : decode code 15 = .ok (.astore_n 2, 1) := by decide +kernel
theorem dLaw_16 : decode code 16 = .ok (.iconst 0, 1) := by decide +kernel
theorem dLaw_17 : decode code 17 = .ok (.istore_n 3, 1) := by decide +kernel
theorem dLaw_18 : decode code 18 = .ok (.iload_n 3, 1) := by decide +kernel
theorem dLaw_19 : decode code 19 = .ok (.aload_n 0, 1) := by decide +kernel
theorem dLaw_20 : decode code 20 = .ok (.arraylength, 1) := by decide +kernel
theorem dLaw_21 : decode code 21 = .ok (.bipush 6, 2) := by decide +kernel
theorem dLaw_23 : decode code 23 = .ok (.isub, 1) := by decide +kernel
theorem dLaw_24 : decode code 24 = .ok (.if_icmp .gt 1309, 3) := by decide +kernel
theorem dLaw_27 : decode code 27 = .ok (.aload_n 0, 1) := by decide +kernel
theorem dLaw_28 : decode code 28 = .ok (.iload_n 3, 1) := by decide +kernel
theorem dLaw_29 : decode code 29 = .ok (.iaload, 1) := by decide +kernel
theorem dLaw_30 : decode code 30 = .ok (.bipush 63, 2) := by decide +kernel
theorem dLaw_32 : decode code 32 = .ok (.iand, 1) := by decide +kernel
theorem dLaw_33 : decode code 33 = .ok (.tableswitch 1294 0 37 #[167, 220, 253, 296, 339, 362, 385, 408, 421, 444, 457, 490, 503, 516, 559, 592, 615, 628, 651, 684, 697, 730, 764, 798, 831, 854, 887, 900, 933, 946, 959, 1002, 1025, 1058, 1081, 1124, 1197, 1231], 167) := by decide +kernel
theorem dLaw_200 : decode code 200 = .ok (.aload_n 1, 1) := by decide +kernel
theorem dLaw_201 : decode code 201 = .ok (.aload_n 0, 1) := by decide +kernel
theorem dLaw_202 : decode code 202 = .ok (.iload_n 3, 1) := by decide +kernel
theorem dLaw_203 : decode code 203 = .ok (.iconst 1, 1) := by decide +kernel
theorem dLaw_204 : decode code 204 = .ok (.iadd, 1) := by decide +kernel
theorem dLaw_205 : decode code 205 = .ok (.iaload, 1) := by decide +kernel
theorem dLaw_206 : decode code 206 = .ok (.aload_n 0, 1) := by decide +kernel
theorem dLaw_207 : decode code 207 = .ok (.iload_n 3, 1) := by decide +kernel
theorem dLaw_208 : decode code 208 = .ok (.iconst 2, 1) := by decide +kernel
theorem dLaw_209 : decode code 209 = .ok (.iadd, 1) := by decide +kernel
theorem dLaw_210 : decode code 210 = .ok (.iaload, 1) := by decide +kernel
theorem dLaw_211 : decode code 211 = .ok (.aload_n 0, 1) := by decide +kernel
theorem dLaw_212 : decode code 212 = .ok (.iload_n 3, 1) := by decide +kernel
theorem dLaw_213 : decode code 213 = .ok (.iconst 3, 1) := by decide +kernel
theorem dLaw_214 : decode code 214 = .ok (.iadd, 1) := by decide +kernel
theorem dLaw_215 : decode code 215 = .ok (.iaload, 1) := by decide +kernel
theorem dLaw_216 : decode code 216 = .ok (.aload_n 0, 1) := by decide +kernel
theorem dLaw_217 : decode code 217 = .ok (.iload_n 3, 1) := by decide +kernel
theorem dLaw_218 : decode code 218 = .ok (.iconst 4, 1) := by decide +kernel
theorem dLaw_219 : decode code 219 = .ok (.iadd, 1) := by decide +kernel
theorem dLaw_220 : decode code 220 = .ok (.iaload, 1) := by decide +kernel
theorem dLaw_221 : decode code 221 = .ok (.invokevirtual 13, 3) := by decide +kernel
theorem dLaw_224 : decode code 224 = .ok (.aload_n 2, 1) := by decide +kernel
theorem dLaw_225 : decode code 225 = .ok (.aload_n 0, 1) := by decide +kernel
theorem dLaw_226 : decode code 226 = .ok (.iload_n 3, 1) := by decide +kernel
theorem dLaw_227 : decode code 227 = .ok (.iconst 1, 1) := by decide +kernel
theorem dLaw_228 : decode code 228 = .ok (.iadd, 1) := by decide +kernel
theorem dLaw_229 : decode code 229 = .ok (.iaload, 1) := by decide +kernel
theorem dLaw_230 : decode code 230 = .ok (.aload_n 0, 1) := by decide +kernel
theorem dLaw_231 : decode code 231 = .ok (.iload_n 3, 1) := by decide +kernel
theorem dLaw_232 : decode code 232 = .ok (.iconst 2, 1) := by decide +kernel
theorem dLaw_233 : decode code 233 = .ok (.iadd, 1) := by decide +kernel
theorem dLaw_234 : decode code 234 = .ok (.iaload, 1) := by decide +kernel
theorem dLaw_235 : decode code 235 = .ok (.aload_n 0, 1) := by decide +kernel
theorem dLaw_236 : decode code 236 = .ok (.iload_n 3, 1) := by decide +kernel
theorem dLaw_237 : decode code 237 = .ok (.iconst 3, 1) := by decide +kernel
theorem dLaw_238 : decode code 238 = .ok (.iadd, 1) := by decide +kernel
theorem dLaw_239 : decode code 239 = .ok (.iaload, 1) := by decide +kernel
theorem dLaw_240 : decode code 240 = .ok (.aload_n 0, 1) := by decide +kernel
theorem dLaw_241 : decode code 241 = .ok (.iload_n 3, 1) := by decide +kernel
theorem dLaw_242 : decode code 242 = .ok (.iconst 4, 1) := by decide +kernel
theorem dLaw_243 : decode code 243 = .ok (.iadd, 1) := by decide +kernel
theorem dLaw_244 : decode code 244 = .ok (.iaload, 1) := by decide +kernel
theorem dLaw_245 : decode code 245 = .ok (.invokevirtual 17, 3) := by decide +kernel
theorem dLaw_248 : decode code 248 = .ok (.if_icmp .eq 1079, 3) := by decide +kernel
theorem dLaw_251 : decode code 251 = .ok (.iconst 0, 1) := by decide +kernel
theorem dLaw_252 : decode code 252 = .ok (.ireturn, 1) := by decide +kernel
theorem dLaw_253 : decode code 253 = .ok (.aload_n 1, 1) := by decide +kernel
theorem dLaw_254 : decode code 254 = .ok (.aload_n 0, 1) := by decide +kernel
theorem dLaw_255 : decode code 255 = .ok (.iload_n 3, 1) := by decide +kernel
theorem dLaw_256 : decode code 256 = .ok (.iconst 1, 1) := by decide +kernel
theorem dLaw_257 : decode code 257 = .ok (.iadd, 1) := by decide +kernel
theorem dLaw_258 : decode code 258 = .ok (.iaload, 1) := by decide +kernel
theorem dLaw_259 : decode code 259 = .ok (.aload_n 0, 1) := by decide +kernel
theorem dLaw_260 : decode code 260 = .ok (.iload_n 3, 1) := by decide +kernel
theorem dLaw_261 : decode code 261 = .ok (.iconst 2, 1) := by decide +kernel
theorem dLaw_262 : decode code 262 = .ok (.iadd, 1) := by decide +kernel
theorem dLaw_263 : decode code 263 = .ok (.iaload, 1) := by decide +kernel
theorem dLaw_264 : decode code 264 = .ok (.invokevirtual 18, 3) := by decide +kernel
theorem dLaw_267 : decode code 267 = .ok (.aload_n 2, 1) := by decide +kernel
theorem dLaw_268 : decode code 268 = .ok (.aload_n 0, 1) := by decide +kernel
theorem dLaw_269 : decode code 269 = .ok (.iload_n 3, 1) := by decide +kernel
theorem dLaw_270 : decode code 270 = .ok (.iconst 1, 1) := by decide +kernel
theorem dLaw_271 : decode code 271 = .ok (.iadd, 1) := by decide +kernel
theorem dLaw_272 : decode code 272 = .ok (.iaload, 1) := by decide +kernel
theorem dLaw_273 : decode code 273 = .ok (.aload_n 0, 1) := by decide +kernel
theorem dLaw_274 : decode code 274 = .ok (.iload_n 3, 1) := by decide +kernel
theorem dLaw_275 : decode code 275 = .ok (.iconst 2, 1) := by decide +kernel
theorem dLaw_276 : decode code 276 = .ok (.iadd, 1) := by decide +kernel
theorem dLaw_277 : decode code 277 = .ok (.iaload, 1) := by decide +kernel
theorem dLaw_278 : decode code 278 = .ok (.invokevirtual 22, 3) := by decide +kernel
theorem dLaw_281 : decode code 281 = .ok (.if_icmp .eq 1046, 3) := by decide +kernel
theorem dLaw_284 : decode code 284 = .ok (.iconst 0, 1) := by decide +kernel
theorem dLaw_285 : decode code 285 = .ok (.ireturn, 1) := by decide +kernel
theorem dLaw_286 : decode code 286 = .ok (.aload_n 1, 1) := by decide +kernel
theorem dLaw_287 : decode code 287 = .ok (.aload_n 0, 1) := by decide +kernel
theorem dLaw_288 : decode code 288 = .ok (.iload_n 3, 1) := by decide +kernel
theorem dLaw_289 : decode code 289 = .ok (.iconst 1, 1) := by decide +kernel
theorem dLaw_290 : decode code 290 = .ok (.iadd, 1) := by decide +kernel
theorem dLaw_291 : decode code 291 = .ok (.iaload, 1) := by decide +kernel
theorem dLaw_292 : decode code 292 = .ok (.aload_n 0, 1) := by decide +kernel
theorem dLaw_293 : decode code 293 = .ok (.iload_n 3, 1) := by decide +kernel
theorem dLaw_294 : decode code 294 = .ok (.iconst 2, 1) := by decide +kernel
theorem dLaw_295 : decode code 295 = .ok (.iadd, 1) := by decide +kernel
theorem dLaw_296 : decode code 296 = .ok (.iaload, 1) := by decide +kernel
theorem dLaw_297 : decode code 297 = .ok (.aload_n 0, 1) := by decide +kernel
theorem dLaw_298 : decode code 298 = .ok (.iload_n 3, 1) := by decide +kernel
theorem dLaw_299 : decode code 299 = .ok (.iconst 3, 1) := by decide +kernel
theorem dLaw_300 : decode code 300 = .ok (.iadd, 1) := by decide +kernel
theorem dLaw_301 : decode code 301 = .ok (.iaload, 1) := by decide +kernel
theorem dLaw_302 : decode code 302 = .ok (.invokevirtual 23, 3) := by decide +kernel
theorem dLaw_305 : decode code 305 = .ok (.aload_n 2, 1) := by decide +kernel
theorem dLaw_306 : decode code 306 = .ok (.aload_n 0, 1) := by decide +kernel
theorem dLaw_307 : decode code 307 = .ok (.iload_n 3, 1) := by decide +kernel
theorem dLaw_308 : decode code 308 = .ok (.iconst 1, 1) := by decide +kernel
theorem dLaw_309 : decode code 309 = .ok (.iadd, 1) := by decide +kernel
theorem dLaw_310 : decode code 310 = .ok (.iaload, 1) := by decide +kernel
theorem dLaw_311 : decode code 311 = .ok (.aload_n 0, 1) := by decide +kernel
theorem dLaw_312 : decode code 312 = .ok (.iload_n 3, 1) := by decide +kernel
theorem dLaw_313 : decode code 313 = .ok (.iconst 2, 1) := by decide +kernel
theorem dLaw_314 : decode code 314 = .ok (.iadd, 1) := by decide +kernel
theorem dLaw_315 : decode code 315 = .ok (.iaload, 1) := by decide +kernel
theorem dLaw_316 : decode code 316 = .ok (.aload_n 0, 1) := by decide +kernel
theorem dLaw_317 : decode code 317 = .ok (.iload_n 3, 1) := by decide +kernel
theorem dLaw_318 : decode code 318 = .ok (.iconst 3, 1) := by decide +kernel
theorem dLaw_319 : decode code 319 = .ok (.iadd, 1) := by decide +kernel
theorem dLaw_320 : decode code 320 = .ok (.iaload, 1) := by decide +kernel
theorem dLaw_321 : decode code 321 = .ok (.invokevirtual 27, 3) := by decide +kernel
theorem dLaw_324 : decode code 324 = .ok (.if_icmp .eq 1003, 3) := by decide +kernel
theorem dLaw_327 : decode code 327 = .ok (.iconst 0, 1) := by decide +kernel
theorem dLaw_328 : decode code 328 = .ok (.ireturn, 1) := by decide +kernel
theorem dLaw_329 : decode code 329 = .ok (.aload_n 1, 1) := by decide +kernel
theorem dLaw_330 : decode code 330 = .ok (.aload_n 0, 1) := by decide +kernel
theorem dLaw_331 : decode code 331 = .ok (.iload_n 3, 1) := by decide +kernel
theorem dLaw_332 : decode code 332 = .ok (.iconst 1, 1) := by decide +kernel
theorem dLaw_333 : decode code 333 = .ok (.iadd, 1) := by decide +kernel
theorem dLaw_334 : decode code 334 = .ok (.iaload, 1) := by decide +kernel
theorem dLaw_335 : decode code 335 = .ok (.aload_n 0, 1) := by decide +kernel
theorem dLaw_336 : decode code 336 = .ok (.iload_n 3, 1) := by decide +kernel
theorem dLaw_337 : decode code 337 = .ok (.iconst 2, 1) := by decide +kernel
theorem dLaw_338 : decode code 338 = .ok (.iadd, 1) := by decide +kernel
theorem dLaw_339 : decode code 339 = .ok (.iaload, 1) := by decide +kernel
theorem dLaw_340 : decode code 340 = .ok (.aload_n 0, 1) := by decide +kernel
theorem dLaw_341 : decode code 341 = .ok (.iload_n 3, 1) := by decide +kernel
theorem dLaw_342 : decode code 342 = .ok (.iconst 3, 1) := by decide +kernel
theorem dLaw_343 : decode code 343 = .ok (.iadd, 1) := by decide +kernel
theorem dLaw_344 : decode code 344 = .ok (.iaload, 1) := by decide +kernel
theorem dLaw_345 : decode code 345 = .ok (.invokevirtual 28, 3) := by decide +kernel
theorem dLaw_348 : decode code 348 = .ok (.aload_n 2, 1) := by decide +kernel
theorem dLaw_349 : decode code 349 = .ok (.aload_n 0, 1) := by decide +kernel
theorem dLaw_350 : decode code 350 = .ok (.iload_n 3, 1) := by decide +kernel
theorem dLaw_351 : decode code 351 = .ok (.iconst 1, 1) := by decide +kernel
theorem dLaw_352 : decode code 352 = .ok (.iadd, 1) := by decide +kernel
theorem dLaw_353 : decode code 353 = .ok (.iaload, 1) := by decide +kernel
theorem dLaw_354 : decode code 354 = .ok (.aload_n 0, 1) := by decide +kernel
theorem dLaw_355 : decode code 355 = .ok (.iload_n 3, 1) := by decide +kernel
theorem dLaw_356 : decode code 356 = .ok (.iconst 2, 1) := by decide +kernel
theorem dLaw_357 : decode code 357 = .ok (.iadd, 1) := by decide +kernel
theorem dLaw_358 : decode code 358 = .ok (.iaload, 1) := by decide +kernel
theorem dLaw_359 : decode code 359 = .ok (.aload_n 0, 1) := by decide +kernel
theorem dLaw_360 : decode code 360 = .ok (.iload_n 3, 1) := by decide +kernel
theorem dLaw_361 : decode code 361 = .ok (.iconst 3, 1) := by decide +kernel
theorem dLaw_362 : decode code 362 = .ok (.iadd, 1) := by decide +kernel
theorem dLaw_363 : decode code 363 = .ok (.iaload, 1) := by decide +kernel
theorem dLaw_364 : decode code 364 = .ok (.invokevirtual 31, 3) := by decide +kernel
theorem dLaw_367 : decode code 367 = .ok (.if_icmp .eq 960, 3) := by decide +kernel
theorem dLaw_370 : decode code 370 = .ok (.iconst 0, 1) := by decide +kernel
theorem dLaw_371 : decode code 371 = .ok (.ireturn, 1) := by decide +kernel
theorem dLaw_372 : decode code 372 = .ok (.aload_n 1, 1) := by decide +kernel
theorem dLaw_373 : decode code 373 = .ok (.aload_n 0, 1) := by decide +kernel
theorem dLaw_374 : decode code 374 = .ok (.iload_n 3, 1) := by decide +kernel
theorem dLaw_375 : decode code 375 = .ok (.iconst 1, 1) := by decide +kernel
theorem dLaw_376 : decode code 376 = .ok (.iadd, 1) := by decide +kernel
theorem dLaw_377 : decode code 377 = .ok (.iaload, 1) := by decide +kernel
theorem dLaw_378 : decode code 378 = .ok (.invokevirtual 32, 3) := by decide +kernel
theorem dLaw_381 : decode code 381 = .ok (.aload_n 2, 1) := by decide +kernel
theorem dLaw_382 : decode code 382 = .ok (.aload_n 0, 1) := by decide +kernel
theorem dLaw_383 : decode code 383 = .ok (.iload_n 3, 1) := by decide +kernel
theorem dLaw_384 : decode code 384 = .ok (.iconst 1, 1) := by decide +kernel
theorem dLaw_385 : decode code 385 = .ok (.iadd, 1) := by decide +kernel
theorem dLaw_386 : decode code 386 = .ok (.iaload, 1) := by decide +kernel
theorem dLaw_387 : decode code 387 = .ok (.invokevirtual 36, 3) := by decide +kernel
theorem dLaw_390 : decode code 390 = .ok (.if_icmp .eq 937, 3) := by decide +kernel
theorem dLaw_393 : decode code 393 = .ok (.iconst 0, 1) := by decide +kernel
theorem dLaw_394 : decode code 394 = .ok (.ireturn, 1) := by decide +kernel
theorem dLaw_395 : decode code 395 = .ok (.aload_n 1, 1) := by decide +kernel
theorem dLaw_396 : decode code 396 = .ok (.aload_n 0, 1) := by decide +kernel
theorem dLaw_397 : decode code 397 = .ok (.iload_n 3, 1) := by decide +kernel
theorem dLaw_398 : decode code 398 = .ok (.iconst 1, 1) := by decide +kernel
theorem dLaw_399 : decode code 399 = .ok (.iadd, 1) := by decide +kernel
theorem dLaw_400 : decode code 400 = .ok (.iaload, 1) := by decide +kernel
theorem dLaw_401 : decode code 401 = .ok (.invokevirtual 37, 3) := by decide +kernel
theorem dLaw_404 : decode code 404 = .ok (.aload_n 2, 1) := by decide +kernel
theorem dLaw_405 : decode code 405 = .ok (.aload_n 0, 1) := by decide +kernel
theorem dLaw_406 : decode code 406 = .ok (.iload_n 3, 1) := by decide +kernel
theorem dLaw_407 : decode code 407 = .ok (.iconst 1, 1) := by decide +kernel
theorem dLaw_408 : decode code 408 = .ok (.iadd, 1) := by decide +kernel
theorem dLaw_409 : decode code 409 = .ok (.iaload, 1) := by decide +kernel
theorem dLaw_410 : decode code 410 = .ok (.invokevirtual 40, 3) := by decide +kernel
theorem dLaw_413 : decode code 413 = .ok (.if_icmp .eq 914, 3) := by decide +kernel
theorem dLaw_416 : decode code 416 = .ok (.iconst 0, 1) := by decide +kernel
theorem dLaw_417 : decode code 417 = .ok (.ireturn, 1) := by decide +kernel
theorem dLaw_418 : decode code 418 = .ok (.aload_n 1, 1) := by decide +kernel
theorem dLaw_419 : decode code 419 = .ok (.aload_n 0, 1) := by decide +kernel
theorem dLaw_420 : decode code 420 = .ok (.iload_n 3, 1) := by decide +kernel
theorem dLaw_421 : decode code 421 = .ok (.iconst 1, 1) := by decide +kernel
theorem dLaw_422 : decode code 422 = .ok (.iadd, 1) := by decide +kernel
theorem dLaw_423 : decode code 423 = .ok (.iaload, 1) := by decide +kernel
theorem dLaw_424 : decode code 424 = .ok (.invokevirtual 41, 3) := by decide +kernel
theorem dLaw_427 : decode code 427 = .ok (.aload_n 2, 1) := by decide +kernel
theorem dLaw_428 : decode code 428 = .ok (.aload_n 0, 1) := by decide +kernel
theorem dLaw_429 : decode code 429 = .ok (.iload_n 3, 1) := by decide +kernel
theorem dLaw_430 : decode code 430 = .ok (.iconst 1, 1) := by decide +kernel
theorem dLaw_431 : decode code 431 = .ok (.iadd, 1) := by decide +kernel
theorem dLaw_432 : decode code 432 = .ok (.iaload, 1) := by decide +kernel
theorem dLaw_433 : decode code 433 = .ok (.invokevirtual 44, 3) := by decide +kernel
theorem dLaw_436 : decode code 436 = .ok (.if_icmp .eq 891, 3) := by decide +kernel
theorem dLaw_439 : decode code 439 = .ok (.iconst 0, 1) := by decide +kernel
theorem dLaw_440 : decode code 440 = .ok (.ireturn, 1) := by decide +kernel
theorem dLaw_441 : decode code 441 = .ok (.aload_n 1, 1) := by decide +kernel
theorem dLaw_442 : decode code 442 = .ok (.invokevirtual 45, 3) := by decide +kernel
theorem dLaw_445 : decode code 445 = .ok (.aload_n 2, 1) := by decide +kernel
theorem dLaw_446 : decode code 446 = .ok (.invokevirtual 49, 3) := by decide +kernel
theorem dLaw_449 : decode code 449 = .ok (.if_icmp .eq 878, 3) := by decide +kernel
theorem dLaw_452 : decode code 452 = .ok (.iconst 0, 1) := by decide +kernel
theorem dLaw_453 : decode code 453 = .ok (.ireturn, 1) := by decide +kernel
theorem dLaw_454 : decode code 454 = .ok (.aload_n 1, 1) := by decide +kernel
theorem dLaw_455 : decode code 455 = .ok (.aload_n 0, 1) := by decide +kernel
theorem dLaw_456 : decode code 456 = .ok (.iload_n 3, 1) := by decide +kernel
theorem dLaw_457 : decode code 457 = .ok (.iconst 1, 1) := by decide +kernel
theorem dLaw_458 : decode code 458 = .ok (.iadd, 1) := by decide +kernel
theorem dLaw_459 : decode code 459 = .ok (.iaload, 1) := by decide +kernel
theorem dLaw_460 : decode code 460 = .ok (.invokevirtual 50, 3) := by decide +kernel
theorem dLaw_463 : decode code 463 = .ok (.aload_n 2, 1) := by decide +kernel
theorem dLaw_464 : decode code 464 = .ok (.aload_n 0, 1) := by decide +kernel
theorem dLaw_465 : decode code 465 = .ok (.iload_n 3, 1) := by decide +kernel
theorem dLaw_466 : decode code 466 = .ok (.iconst 1, 1) := by decide +kernel
theorem dLaw_467 : decode code 467 = .ok (.iadd, 1) := by decide +kernel
theorem dLaw_468 : decode code 468 = .ok (.iaload, 1) := by decide +kernel
theorem dLaw_469 : decode code 469 = .ok (.invokevirtual 53, 3) := by decide +kernel
theorem dLaw_472 : decode code 472 = .ok (.if_icmp .eq 855, 3) := by decide +kernel
theorem dLaw_475 : decode code 475 = .ok (.iconst 0, 1) := by decide +kernel
theorem dLaw_476 : decode code 476 = .ok (.ireturn, 1) := by decide +kernel
theorem dLaw_477 : decode code 477 = .ok (.aload_n 1, 1) := by decide +kernel
theorem dLaw_478 : decode code 478 = .ok (.invokevirtual 54, 3) := by decide +kernel
theorem dLaw_481 : decode code 481 = .ok (.aload_n 2, 1) := by decide +kernel
theorem dLaw_482 : decode code 482 = .ok (.invokevirtual 57, 3) := by decide +kernel
theorem dLaw_485 : decode code 485 = .ok (.if_icmp .eq 842, 3) := by decide +kernel
theorem dLaw_488 : decode code 488 = .ok (.iconst 0, 1) := by decide +kernel
theorem dLaw_489 : decode code 489 = .ok (.ireturn, 1) := by decide +kernel
theorem dLaw_490 : decode code 490 = .ok (.aload_n 1, 1) := by decide +kernel
theorem dLaw_491 : decode code 491 = .ok (.aload_n 0, 1) := by decide +kernel
theorem dLaw_492 : decode code 492 = .ok (.iload_n 3, 1) := by decide +kernel
theorem dLaw_493 : decode code 493 = .ok (.iconst 1, 1) := by decide +kernel
theorem dLaw_494 : decode code 494 = .ok (.iadd, 1) := by decide +kernel
theorem dLaw_495 : decode code 495 = .ok (.iaload, 1) := by decide +kernel
theorem dLaw_496 : decode code 496 = .ok (.aload_n 0, 1) := by decide +kernel
theorem dLaw_497 : decode code 497 = .ok (.iload_n 3, 1) := by decide +kernel
theorem dLaw_498 : decode code 498 = .ok (.iconst 2, 1) := by decide +kernel
theorem dLaw_499 : decode code 499 = .ok (.iadd, 1) := by decide +kernel
theorem dLaw_500 : decode code 500 = .ok (.iaload, 1) := by decide +kernel
theorem dLaw_501 : decode code 501 = .ok (.invokevirtual 58, 3) := by decide +kernel
theorem dLaw_504 : decode code 504 = .ok (.aload_n 2, 1) := by decide +kernel
theorem dLaw_505 : decode code 505 = .ok (.aload_n 0, 1) := by decide +kernel
theorem dLaw_506 : decode code 506 = .ok (.iload_n 3, 1) := by decide +kernel
theorem dLaw_507 : decode code 507 = .ok (.iconst 1, 1) := by decide +kernel
theorem dLaw_508 : decode code 508 = .ok (.iadd, 1) := by decide +kernel
theorem dLaw_509 : decode code 509 = .ok (.iaload, 1) := by decide +kernel
theorem dLaw_510 : decode code 510 = .ok (.aload_n 0, 1) := by decide +kernel
theorem dLaw_511 : decode code 511 = .ok (.iload_n 3, 1) := by decide +kernel
theorem dLaw_512 : decode code 512 = .ok (.iconst 2, 1) := by decide +kernel
theorem dLaw_513 : decode code 513 = .ok (.iadd, 1) := by decide +kernel
theorem dLaw_514 : decode code 514 = .ok (.iaload, 1) := by decide +kernel
theorem dLaw_515 : decode code 515 = .ok (.invokevirtual 61, 3) := by decide +kernel
theorem dLaw_518 : decode code 518 = .ok (.if_icmp .eq 809, 3) := by decide +kernel
theorem dLaw_521 : decode code 521 = .ok (.iconst 0, 1) := by decide +kernel
theorem dLaw_522 : decode code 522 = .ok (.ireturn, 1) := by decide +kernel
theorem dLaw_523 : decode code 523 = .ok (.aload_n 1, 1) := by decide +kernel
theorem dLaw_524 : decode code 524 = .ok (.invokevirtual 62, 3) := by decide +kernel
theorem dLaw_527 : decode code 527 = .ok (.aload_n 2, 1) := by decide +kernel
theorem dLaw_528 : decode code 528 = .ok (.invokevirtual 65, 3) := by decide +kernel
theorem dLaw_531 : decode code 531 = .ok (.if_icmp .eq 796, 3) := by decide +kernel
theorem dLaw_534 : decode code 534 = .ok (.iconst 0, 1) := by decide +kernel
theorem dLaw_535 : decode code 535 = .ok (.ireturn, 1) := by decide +kernel
theorem dLaw_536 : decode code 536 = .ok (.aload_n 1, 1) := by decide +kernel
theorem dLaw_537 : decode code 537 = .ok (.invokevirtual 66, 3) := by decide +kernel
theorem dLaw_540 : decode code 540 = .ok (.aload_n 2, 1) := by decide +kernel
theorem dLaw_541 : decode code 541 = .ok (.invokevirtual 69, 3) := by decide +kernel
theorem dLaw_544 : decode code 544 = .ok (.if_icmp .eq 783, 3) := by decide +kernel
theorem dLaw_547 : decode code 547 = .ok (.iconst 0, 1) := by decide +kernel
theorem dLaw_548 : decode code 548 = .ok (.ireturn, 1) := by decide +kernel
theorem dLaw_549 : decode code 549 = .ok (.aload_n 1, 1) := by decide +kernel
theorem dLaw_550 : decode code 550 = .ok (.aload_n 0, 1) := by decide +kernel
theorem dLaw_551 : decode code 551 = .ok (.iload_n 3, 1) := by decide +kernel
theorem dLaw_552 : decode code 552 = .ok (.iconst 1, 1) := by decide +kernel
theorem dLaw_553 : decode code 553 = .ok (.iadd, 1) := by decide +kernel
theorem dLaw_554 : decode code 554 = .ok (.iaload, 1) := by decide +kernel
theorem dLaw_555 : decode code 555 = .ok (.aload_n 0, 1) := by decide +kernel
theorem dLaw_556 : decode code 556 = .ok (.iload_n 3, 1) := by decide +kernel
theorem dLaw_557 : decode code 557 = .ok (.iconst 2, 1) := by decide +kernel
theorem dLaw_558 : decode code 558 = .ok (.iadd, 1) := by decide +kernel
theorem dLaw_559 : decode code 559 = .ok (.iaload, 1) := by decide +kernel
theorem dLaw_560 : decode code 560 = .ok (.aload_n 0, 1) := by decide +kernel
theorem dLaw_561 : decode code 561 = .ok (.iload_n 3, 1) := by decide +kernel
theorem dLaw_562 : decode code 562 = .ok (.iconst 3, 1) := by decide +kernel
theorem dLaw_563 : decode code 563 = .ok (.iadd, 1) := by decide +kernel
theorem dLaw_564 : decode code 564 = .ok (.iaload, 1) := by decide +kernel
theorem dLaw_565 : decode code 565 = .ok (.invokevirtual 70, 3) := by decide +kernel
theorem dLaw_568 : decode code 568 = .ok (.aload_n 2, 1) := by decide +kernel
theorem dLaw_569 : decode code 569 = .ok (.aload_n 0, 1) := by decide +kernel
theorem dLaw_570 : decode code 570 = .ok (.iload_n 3, 1) := by decide +kernel
theorem dLaw_571 : decode code 571 = .ok (.iconst 1, 1) := by decide +kernel
theorem dLaw_572 : decode code 572 = .ok (.iadd, 1) := by decide +kernel
theorem dLaw_573 : decode code 573 = .ok (.iaload, 1) := by decide +kernel
theorem dLaw_574 : decode code 574 = .ok (.aload_n 0, 1) := by decide +kernel
theorem dLaw_575 : decode code 575 = .ok (.iload_n 3, 1) := by decide +kernel
theorem dLaw_576 : decode code 576 = .ok (.iconst 2, 1) := by decide +kernel
theorem dLaw_577 : decode code 577 = .ok (.iadd, 1) := by decide +kernel
theorem dLaw_578 : decode code 578 = .ok (.iaload, 1) := by decide +kernel
theorem dLaw_579 : decode code 579 = .ok (.aload_n 0, 1) := by decide +kernel
theorem dLaw_580 : decode code 580 = .ok (.iload_n 3, 1) := by decide +kernel
theorem dLaw_581 : decode code 581 = .ok (.iconst 3, 1) := by decide +kernel
theorem dLaw_582 : decode code 582 = .ok (.iadd, 1) := by decide +kernel
theorem dLaw_583 : decode code 583 = .ok (.iaload, 1) := by decide +kernel
theorem dLaw_584 : decode code 584 = .ok (.invokevirtual 73, 3) := by decide +kernel
theorem dLaw_587 : decode code 587 = .ok (.if_icmp .eq 740, 3) := by decide +kernel
theorem dLaw_590 : decode code 590 = .ok (.iconst 0, 1) := by decide +kernel
theorem dLaw_591 : decode code 591 = .ok (.ireturn, 1) := by decide +kernel
theorem dLaw_592 : decode code 592 = .ok (.aload_n 1, 1) := by decide +kernel
theorem dLaw_593 : decode code 593 = .ok (.aload_n 0, 1) := by decide +kernel
theorem dLaw_594 : decode code 594 = .ok (.iload_n 3, 1) := by decide +kernel
theorem dLaw_595 : decode code 595 = .ok (.iconst 1, 1) := by decide +kernel
theorem dLaw_596 : decode code 596 = .ok (.iadd, 1) := by decide +kernel
theorem dLaw_597 : decode code 597 = .ok (.iaload, 1) := by decide +kernel
theorem dLaw_598 : decode code 598 = .ok (.aload_n 0, 1) := by decide +kernel
theorem dLaw_599 : decode code 599 = .ok (.iload_n 3, 1) := by decide +kernel
theorem dLaw_600 : decode code 600 = .ok (.iconst 2, 1) := by decide +kernel
theorem dLaw_601 : decode code 601 = .ok (.iadd, 1) := by decide +kernel
theorem dLaw_602 : decode code 602 = .ok (.iaload, 1) := by decide +kernel
theorem dLaw_603 : decode code 603 = .ok (.invokevirtual 74, 3) := by decide +kernel
theorem dLaw_606 : decode code 606 = .ok (.aload_n 2, 1) := by decide +kernel
theorem dLaw_607 : decode code 607 = .ok (.aload_n 0, 1) := by decide +kernel
theorem dLaw_608 : decode code 608 = .ok (.iload_n 3, 1) := by decide +kernel
theorem dLaw_609 : decode code 609 = .ok (.iconst 1, 1) := by decide +kernel
theorem dLaw_610 : decode code 610 = .ok (.iadd, 1) := by decide +kernel
theorem dLaw_611 : decode code 611 = .ok (.iaload, 1) := by decide +kernel
theorem dLaw_612 : decode code 612 = .ok (.aload_n 0, 1) := by decide +kernel
theorem dLaw_613 : decode code 613 = .ok (.iload_n 3, 1) := by decide +kernel
theorem dLaw_614 : decode code 614 = .ok (.iconst 2, 1) := by decide +kernel
theorem dLaw_615 : decode code 615 = .ok (.iadd, 1) := by decide +kernel
theorem dLaw_616 : decode code 616 = .ok (.iaload, 1) := by decide +kernel
theorem dLaw_617 : decode code 617 = .ok (.invokevirtual 77, 3) := by decide +kernel
theorem dLaw_620 : decode code 620 = .ok (.if_icmp .eq 707, 3) := by decide +kernel
theorem dLaw_623 : decode code 623 = .ok (.iconst 0, 1) := by decide +kernel
theorem dLaw_624 : decode code 624 = .ok (.ireturn, 1) := by decide +kernel
theorem dLaw_625 : decode code 625 = .ok (.aload_n 1, 1) := by decide +kernel
theorem dLaw_626 : decode code 626 = .ok (.aload_n 0, 1) := by decide +kernel
theorem dLaw_627 : decode code 627 = .ok (.iload_n 3, 1) := by decide +kernel
theorem dLaw_628 : decode code 628 = .ok (.iconst 1, 1) := by decide +kernel
theorem dLaw_629 : decode code 629 = .ok (.iadd, 1) := by decide +kernel
theorem dLaw_630 : decode code 630 = .ok (.iaload, 1) := by decide +kernel
theorem dLaw_631 : decode code 631 = .ok (.invokevirtual 78, 3) := by decide +kernel
theorem dLaw_634 : decode code 634 = .ok (.aload_n 2, 1) := by decide +kernel
theorem dLaw_635 : decode code 635 = .ok (.aload_n 0, 1) := by decide +kernel
theorem dLaw_636 : decode code 636 = .ok (.iload_n 3, 1) := by decide +kernel
theorem dLaw_637 : decode code 637 = .ok (.iconst 1, 1) := by decide +kernel
theorem dLaw_638 : decode code 638 = .ok (.iadd, 1) := by decide +kernel
theorem dLaw_639 : decode code 639 = .ok (.iaload, 1) := by decide +kernel
theorem dLaw_640 : decode code 640 = .ok (.invokevirtual 81, 3) := by decide +kernel
theorem dLaw_643 : decode code 643 = .ok (.if_icmp .eq 684, 3) := by decide +kernel
theorem dLaw_646 : decode code 646 = .ok (.iconst 0, 1) := by decide +kernel
theorem dLaw_647 : decode code 647 = .ok (.ireturn, 1) := by decide +kernel
theorem dLaw_648 : decode code 648 = .ok (.aload_n 1, 1) := by decide +kernel
theorem dLaw_649 : decode code 649 = .ok (.invokevirtual 82, 3) := by decide +kernel
theorem dLaw_652 : decode code 652 = .ok (.aload_n 2, 1) := by decide +kernel
theorem dLaw_653 : decode code 653 = .ok (.invokevirtual 85, 3) := by decide +kernel
theorem dLaw_656 : decode code 656 = .ok (.if_icmp .eq 671, 3) := by decide +kernel
theorem dLaw_659 : decode code 659 = .ok (.iconst 0, 1) := by decide +kernel
theorem dLaw_660 : decode code 660 = .ok (.ireturn, 1) := by decide +kernel
theorem dLaw_661 : decode code 661 = .ok (.aload_n 1, 1) := by decide +kernel
theorem dLaw_662 : decode code 662 = .ok (.aload_n 0, 1) := by decide +kernel
theorem dLaw_663 : decode code 663 = .ok (.iload_n 3, 1) := by decide +kernel
theorem dLaw_664 : decode code 664 = .ok (.iconst 1, 1) := by decide +kernel
theorem dLaw_665 : decode code 665 = .ok (.iadd, 1) := by decide +kernel
theorem dLaw_666 : decode code 666 = .ok (.iaload, 1) := by decide +kernel
theorem dLaw_667 : decode code 667 = .ok (.invokevirtual 86, 3) := by decide +kernel
theorem dLaw_670 : decode code 670 = .ok (.aload_n 2, 1) := by decide +kernel
theorem dLaw_671 : decode code 671 = .ok (.aload_n 0, 1) := by decide +kernel
theorem dLaw_672 : decode code 672 = .ok (.iload_n 3, 1) := by decide +kernel
theorem dLaw_673 : decode code 673 = .ok (.iconst 1, 1) := by decide +kernel
theorem dLaw_674 : decode code 674 = .ok (.iadd, 1) := by decide +kernel
theorem dLaw_675 : decode code 675 = .ok (.iaload, 1) := by decide +kernel
theorem dLaw_676 : decode code 676 = .ok (.invokevirtual 89, 3) := by decide +kernel
theorem dLaw_679 : decode code 679 = .ok (.if_icmp .eq 648, 3) := by decide +kernel
theorem dLaw_682 : decode code 682 = .ok (.iconst 0, 1) := by decide +kernel
theorem dLaw_683 : decode code 683 = .ok (.ireturn, 1) := by decide +kernel
theorem dLaw_684 : decode code 684 = .ok (.aload_n 1, 1) := by decide +kernel
theorem dLaw_685 : decode code 685 = .ok (.aload_n 0, 1) := by decide +kernel
theorem dLaw_686 : decode code 686 = .ok (.iload_n 3, 1) := by decide +kernel
theorem dLaw_687 : decode code 687 = .ok (.iconst 1, 1) := by decide +kernel
theorem dLaw_688 : decode code 688 = .ok (.iadd, 1) := by decide +kernel
theorem dLaw_689 : decode code 689 = .ok (.iaload, 1) := by decide +kernel
theorem dLaw_690 : decode code 690 = .ok (.aload_n 0, 1) := by decide +kernel
theorem dLaw_691 : decode code 691 = .ok (.iload_n 3, 1) := by decide +kernel
theorem dLaw_692 : decode code 692 = .ok (.iconst 2, 1) := by decide +kernel
theorem dLaw_693 : decode code 693 = .ok (.iadd, 1) := by decide +kernel
theorem dLaw_694 : decode code 694 = .ok (.iaload, 1) := by decide +kernel
theorem dLaw_695 : decode code 695 = .ok (.invokevirtual 90, 3) := by decide +kernel
theorem dLaw_698 : decode code 698 = .ok (.aload_n 2, 1) := by decide +kernel
theorem dLaw_699 : decode code 699 = .ok (.aload_n 0, 1) := by decide +kernel
theorem dLaw_700 : decode code 700 = .ok (.iload_n 3, 1) := by decide +kernel
theorem dLaw_701 : decode code 701 = .ok (.iconst 1, 1) := by decide +kernel
theorem dLaw_702 : decode code 702 = .ok (.iadd, 1) := by decide +kernel
theorem dLaw_703 : decode code 703 = .ok (.iaload, 1) := by decide +kernel
theorem dLaw_704 : decode code 704 = .ok (.aload_n 0, 1) := by decide +kernel
theorem dLaw_705 : decode code 705 = .ok (.iload_n 3, 1) := by decide +kernel
theorem dLaw_706 : decode code 706 = .ok (.iconst 2, 1) := by decide +kernel
theorem dLaw_707 : decode code 707 = .ok (.iadd, 1) := by decide +kernel
theorem dLaw_708 : decode code 708 = .ok (.iaload, 1) := by decide +kernel
theorem dLaw_709 : decode code 709 = .ok (.invokevirtual 93, 3) := by decide +kernel
theorem dLaw_712 : decode code 712 = .ok (.if_icmp .eq 615, 3) := by decide +kernel
theorem dLaw_715 : decode code 715 = .ok (.iconst 0, 1) := by decide +kernel
theorem dLaw_716 : decode code 716 = .ok (.ireturn, 1) := by decide +kernel
theorem dLaw_717 : decode code 717 = .ok (.aload_n 1, 1) := by decide +kernel
theorem dLaw_718 : decode code 718 = .ok (.invokevirtual 94, 3) := by decide +kernel
theorem dLaw_721 : decode code 721 = .ok (.aload_n 2, 1) := by decide +kernel
theorem dLaw_722 : decode code 722 = .ok (.invokevirtual 97, 3) := by decide +kernel
theorem dLaw_725 : decode code 725 = .ok (.if_icmp .eq 602, 3) := by decide +kernel
theorem dLaw_728 : decode code 728 = .ok (.iconst 0, 1) := by decide +kernel
theorem dLaw_729 : decode code 729 = .ok (.ireturn, 1) := by decide +kernel
theorem dLaw_730 : decode code 730 = .ok (.aload_n 1, 1) := by decide +kernel
theorem dLaw_731 : decode code 731 = .ok (.aload_n 0, 1) := by decide +kernel
theorem dLaw_732 : decode code 732 = .ok (.iload_n 3, 1) := by decide +kernel
theorem dLaw_733 : decode code 733 = .ok (.iconst 1, 1) := by decide +kernel
theorem dLaw_734 : decode code 734 = .ok (.iadd, 1) := by decide +kernel
theorem dLaw_735 : decode code 735 = .ok (.iaload, 1) := by decide +kernel
theorem dLaw_736 : decode code 736 = .ok (.aload_n 0, 1) := by decide +kernel
theorem dLaw_737 : decode code 737 = .ok (.iload_n 3, 1) := by decide +kernel
theorem dLaw_738 : decode code 738 = .ok (.iconst 2, 1) := by decide +kernel
theorem dLaw_739 : decode code 739 = .ok (.iadd, 1) := by decide +kernel
theorem dLaw_740 : decode code 740 = .ok (.iaload, 1) := by decide +kernel
theorem dLaw_741 : decode code 741 = .ok (.invokevirtual 98, 3) := by decide +kernel
theorem dLaw_744 : decode code 744 = .ok (.aload_n 2, 1) := by decide +kernel
theorem dLaw_745 : decode code 745 = .ok (.aload_n 0, 1) := by decide +kernel
theorem dLaw_746 : decode code 746 = .ok (.iload_n 3, 1) := by decide +kernel
theorem dLaw_747 : decode code 747 = .ok (.iconst 1, 1) := by decide +kernel
theorem dLaw_748 : decode code 748 = .ok (.iadd, 1) := by decide +kernel
theorem dLaw_749 : decode code 749 = .ok (.iaload, 1) := by decide +kernel
theorem dLaw_750 : decode code 750 = .ok (.aload_n 0, 1) := by decide +kernel
theorem dLaw_751 : decode code 751 = .ok (.iload_n 3, 1) := by decide +kernel
theorem dLaw_752 : decode code 752 = .ok (.iconst 2, 1) := by decide +kernel
theorem dLaw_753 : decode code 753 = .ok (.iadd, 1) := by decide +kernel
theorem dLaw_754 : decode code 754 = .ok (.iaload, 1) := by decide +kernel
theorem dLaw_755 : decode code 755 = .ok (.invokevirtual 101, 3) := by decide +kernel
theorem dLaw_758 : decode code 758 = .ok (.if_icmp .eq 569, 3) := by decide +kernel
theorem dLaw_761 : decode code 761 = .ok (.iconst 0, 1) := by decide +kernel
theorem dLaw_762 : decode code 762 = .ok (.ireturn, 1) := by decide +kernel
theorem dLaw_763 : decode code 763 = .ok (.aload_n 1, 1) := by decide +kernel
theorem dLaw_764 : decode code 764 = .ok (.aload_n 0, 1) := by decide +kernel
theorem dLaw_765 : decode code 765 = .ok (.iload_n 3, 1) := by decide +kernel
theorem dLaw_766 : decode code 766 = .ok (.iconst 1, 1) := by decide +kernel
theorem dLaw_767 : decode code 767 = .ok (.iadd, 1) := by decide +kernel
theorem dLaw_768 : decode code 768 = .ok (.iaload, 1) := by decide +kernel
theorem dLaw_769 : decode code 769 = .ok (.aload_n 0, 1) := by decide +kernel
theorem dLaw_770 : decode code 770 = .ok (.iload_n 3, 1) := by decide +kernel
theorem dLaw_771 : decode code 771 = .ok (.iconst 2, 1) := by decide +kernel
theorem dLaw_772 : decode code 772 = .ok (.iadd, 1) := by decide +kernel
theorem dLaw_773 : decode code 773 = .ok (.iaload, 1) := by decide +kernel
theorem dLaw_774 : decode code 774 = .ok (.invokevirtual 102, 3) := by decide +kernel
theorem dLaw_777 : decode code 777 = .ok (.aload_n 2, 1) := by decide +kernel
theorem dLaw_778 : decode code 778 = .ok (.aload_n 0, 1) := by decide +kernel
theorem dLaw_779 : decode code 779 = .ok (.iload_n 3, 1) := by decide +kernel
theorem dLaw_780 : decode code 780 = .ok (.iconst 1, 1) := by decide +kernel
theorem dLaw_781 : decode code 781 = .ok (.iadd, 1) := by decide +kernel
theorem dLaw_782 : decode code 782 = .ok (.iaload, 1) := by decide +kernel
theorem dLaw_783 : decode code 783 = .ok (.aload_n 0, 1) := by decide +kernel
theorem dLaw_784 : decode code 784 = .ok (.iload_n 3, 1) := by decide +kernel
theorem dLaw_785 : decode code 785 = .ok (.iconst 2, 1) := by decide +kernel
theorem dLaw_786 : decode code 786 = .ok (.iadd, 1) := by decide +kernel
theorem dLaw_787 : decode code 787 = .ok (.iaload, 1) := by decide +kernel
theorem dLaw_788 : decode code 788 = .ok (.invokevirtual 106, 3) := by decide +kernel
theorem dLaw_791 : decode code 791 = .ok (.lcmp, 1) := by decide +kernel
theorem dLaw_792 : decode code 792 = .ok (.ifCond .eq 535, 3) := by decide +kernel
theorem dLaw_795 : decode code 795 = .ok (.iconst 0, 1) := by decide +kernel
theorem dLaw_796 : decode code 796 = .ok (.ireturn, 1) := by decide +kernel
theorem dLaw_797 : decode code 797 = .ok (.aload_n 1, 1) := by decide +kernel
theorem dLaw_798 : decode code 798 = .ok (.aload_n 0, 1) := by decide +kernel
theorem dLaw_799 : decode code 799 = .ok (.iload_n 3, 1) := by decide +kernel
theorem dLaw_800 : decode code 800 = .ok (.iconst 1, 1) := by decide +kernel
theorem dLaw_801 : decode code 801 = .ok (.iadd, 1) := by decide +kernel
theorem dLaw_802 : decode code 802 = .ok (.iaload, 1) := by decide +kernel
theorem dLaw_803 : decode code 803 = .ok (.aload_n 0, 1) := by decide +kernel
theorem dLaw_804 : decode code 804 = .ok (.iload_n 3, 1) := by decide +kernel
theorem dLaw_805 : decode code 805 = .ok (.iconst 2, 1) := by decide +kernel
theorem dLaw_806 : decode code 806 = .ok (.iadd, 1) := by decide +kernel
theorem dLaw_807 : decode code 807 = .ok (.iaload, 1) := by decide +kernel
theorem dLaw_808 : decode code 808 = .ok (.invokevirtual 107, 3) := by decide +kernel
theorem dLaw_811 : decode code 811 = .ok (.aload_n 2, 1) := by decide +kernel
theorem dLaw_812 : decode code 812 = .ok (.aload_n 0, 1) := by decide +kernel
theorem dLaw_813 : decode code 813 = .ok (.iload_n 3, 1) := by decide +kernel
theorem dLaw_814 : decode code 814 = .ok (.iconst 1, 1) := by decide +kernel
theorem dLaw_815 : decode code 815 = .ok (.iadd, 1) := by decide +kernel
theorem dLaw_816 : decode code 816 = .ok (.iaload, 1) := by decide +kernel
theorem dLaw_817 : decode code 817 = .ok (.aload_n 0, 1) := by decide +kernel
theorem dLaw_818 : decode code 818 = .ok (.iload_n 3, 1) := by decide +kernel
theorem dLaw_819 : decode code 819 = .ok (.iconst 2, 1) := by decide +kernel
theorem dLaw_820 : decode code 820 = .ok (.iadd, 1) := by decide +kernel
theorem dLaw_821 : decode code 821 = .ok (.iaload, 1) := by decide +kernel
theorem dLaw_822 : decode code 822 = .ok (.invokevirtual 110, 3) := by decide +kernel
theorem dLaw_825 : decode code 825 = .ok (.lcmp, 1) := by decide +kernel
theorem dLaw_826 : decode code 826 = .ok (.ifCond .eq 501, 3) := by decide +kernel
theorem dLaw_829 : decode code 829 = .ok (.iconst 0, 1) := by decide +kernel
theorem dLaw_830 : decode code 830 = .ok (.ireturn, 1) := by decide +kernel
theorem dLaw_831 : decode code 831 = .ok (.aload_n 1, 1) := by decide +kernel
theorem dLaw_832 : decode code 832 = .ok (.aload_n 0, 1) := by decide +kernel
theorem dLaw_833 : decode code 833 = .ok (.iload_n 3, 1) := by decide +kernel
theorem dLaw_834 : decode code 834 = .ok (.iconst 1, 1) := by decide +kernel
theorem dLaw_835 : decode code 835 = .ok (.iadd, 1) := by decide +kernel
theorem dLaw_836 : decode code 836 = .ok (.iaload, 1) := by decide +kernel
theorem dLaw_837 : decode code 837 = .ok (.aload_n 0, 1) := by decide +kernel
theorem dLaw_838 : decode code 838 = .ok (.iload_n 3, 1) := by decide +kernel
theorem dLaw_839 : decode code 839 = .ok (.iconst 2, 1) := by decide +kernel
theorem dLaw_840 : decode code 840 = .ok (.iadd, 1) := by decide +kernel
theorem dLaw_841 : decode code 841 = .ok (.iaload, 1) := by decide +kernel
theorem dLaw_842 : decode code 842 = .ok (.invokevirtual 111, 3) := by decide +kernel
theorem dLaw_845 : decode code 845 = .ok (.aload_n 2, 1) := by decide +kernel
theorem dLaw_846 : decode code 846 = .ok (.aload_n 0, 1) := by decide +kernel
theorem dLaw_847 : decode code 847 = .ok (.iload_n 3, 1) := by decide +kernel
theorem dLaw_848 : decode code 848 = .ok (.iconst 1, 1) := by decide +kernel
theorem dLaw_849 : decode code 849 = .ok (.iadd, 1) := by decide +kernel
theorem dLaw_850 : decode code 850 = .ok (.iaload, 1) := by decide +kernel
theorem dLaw_851 : decode code 851 = .ok (.aload_n 0, 1) := by decide +kernel
theorem dLaw_852 : decode code 852 = .ok (.iload_n 3, 1) := by decide +kernel
theorem dLaw_853 : decode code 853 = .ok (.iconst 2, 1) := by decide +kernel
theorem dLaw_854 : decode code 854 = .ok (.iadd, 1) := by decide +kernel
theorem dLaw_855 : decode code 855 = .ok (.iaload, 1) := by decide +kernel
theorem dLaw_856 : decode code 856 = .ok (.invokevirtual 114, 3) := by decide +kernel
theorem dLaw_859 : decode code 859 = .ok (.if_icmp .eq 468, 3) := by decide +kernel
theorem dLaw_862 : decode code 862 = .ok (.iconst 0, 1) := by decide +kernel
theorem dLaw_863 : decode code 863 = .ok (.ireturn, 1) := by decide +kernel
theorem dLaw_864 : decode code 864 = .ok (.aload_n 1, 1) := by decide +kernel
theorem dLaw_865 : decode code 865 = .ok (.aload_n 0, 1) := by decide +kernel
theorem dLaw_866 : decode code 866 = .ok (.iload_n 3, 1) := by decide +kernel
theorem dLaw_867 : decode code 867 = .ok (.iconst 1, 1) := by decide +kernel
theorem dLaw_868 : decode code 868 = .ok (.iadd, 1) := by decide +kernel
theorem dLaw_869 : decode code 869 = .ok (.iaload, 1) := by decide +kernel
theorem dLaw_870 : decode code 870 = .ok (.invokevirtual 115, 3) := by decide +kernel
theorem dLaw_873 : decode code 873 = .ok (.aload_n 2, 1) := by decide +kernel
theorem dLaw_874 : decode code 874 = .ok (.aload_n 0, 1) := by decide +kernel
theorem dLaw_875 : decode code 875 = .ok (.iload_n 3, 1) := by decide +kernel
theorem dLaw_876 : decode code 876 = .ok (.iconst 1, 1) := by decide +kernel
theorem dLaw_877 : decode code 877 = .ok (.iadd, 1) := by decide +kernel
theorem dLaw_878 : decode code 878 = .ok (.iaload, 1) := by decide +kernel
theorem dLaw_879 : decode code 879 = .ok (.invokevirtual 118, 3) := by decide +kernel
theorem dLaw_882 : decode code 882 = .ok (.if_icmp .eq 445, 3) := by decide +kernel
theorem dLaw_885 : decode code 885 = .ok (.iconst 0, 1) := by decide +kernel
theorem dLaw_886 : decode code 886 = .ok (.ireturn, 1) := by decide +kernel
theorem dLaw_887 : decode code 887 = .ok (.aload_n 1, 1) := by decide +kernel
theorem dLaw_888 : decode code 888 = .ok (.aload_n 0, 1) := by decide +kernel
theorem dLaw_889 : decode code 889 = .ok (.iload_n 3, 1) := by decide +kernel
theorem dLaw_890 : decode code 890 = .ok (.iconst 1, 1) := by decide +kernel
theorem dLaw_891 : decode code 891 = .ok (.iadd, 1) := by decide +kernel
theorem dLaw_892 : decode code 892 = .ok (.iaload, 1) := by decide +kernel
theorem dLaw_893 : decode code 893 = .ok (.aload_n 0, 1) := by decide +kernel
theorem dLaw_894 : decode code 894 = .ok (.iload_n 3, 1) := by decide +kernel
theorem dLaw_895 : decode code 895 = .ok (.iconst 2, 1) := by decide +kernel
theorem dLaw_896 : decode code 896 = .ok (.iadd, 1) := by decide +kernel
theorem dLaw_897 : decode code 897 = .ok (.iaload, 1) := by decide +kernel
theorem dLaw_898 : decode code 898 = .ok (.invokevirtual 119, 3) := by decide +kernel
theorem dLaw_901 : decode code 901 = .ok (.aload_n 2, 1) := by decide +kernel
theorem dLaw_902 : decode code 902 = .ok (.aload_n 0, 1) := by decide +kernel
theorem dLaw_903 : decode code 903 = .ok (.iload_n 3, 1) := by decide +kernel
theorem dLaw_904 : decode code 904 = .ok (.iconst 1, 1) := by decide +kernel
theorem dLaw_905 : decode code 905 = .ok (.iadd, 1) := by decide +kernel
theorem dLaw_906 : decode code 906 = .ok (.iaload, 1) := by decide +kernel
theorem dLaw_907 : decode code 907 = .ok (.aload_n 0, 1) := by decide +kernel
theorem dLaw_908 : decode code 908 = .ok (.iload_n 3, 1) := by decide +kernel
theorem dLaw_909 : decode code 909 = .ok (.iconst 2, 1) := by decide +kernel
theorem dLaw_910 : decode code 910 = .ok (.iadd, 1) := by decide +kernel
theorem dLaw_911 : decode code 911 = .ok (.iaload, 1) := by decide +kernel
theorem dLaw_912 : decode code 912 = .ok (.invokevirtual 122, 3) := by decide +kernel
theorem dLaw_915 : decode code 915 = .ok (.if_icmp .eq 412, 3) := by decide +kernel
theorem dLaw_918 : decode code 918 = .ok (.iconst 0, 1) := by decide +kernel
theorem dLaw_919 : decode code 919 = .ok (.ireturn, 1) := by decide +kernel
theorem dLaw_920 : decode code 920 = .ok (.aload_n 1, 1) := by decide +kernel
theorem dLaw_921 : decode code 921 = .ok (.invokevirtual 123, 3) := by decide +kernel
theorem dLaw_924 : decode code 924 = .ok (.aload_n 2, 1) := by decide +kernel
theorem dLaw_925 : decode code 925 = .ok (.invokevirtual 126, 3) := by decide +kernel
theorem dLaw_928 : decode code 928 = .ok (.if_icmp .eq 399, 3) := by decide +kernel
theorem dLaw_931 : decode code 931 = .ok (.iconst 0, 1) := by decide +kernel
theorem dLaw_932 : decode code 932 = .ok (.ireturn, 1) := by decide +kernel
theorem dLaw_933 : decode code 933 = .ok (.aload_n 1, 1) := by decide +kernel
theorem dLaw_934 : decode code 934 = .ok (.aload_n 0, 1) := by decide +kernel
theorem dLaw_935 : decode code 935 = .ok (.iload_n 3, 1) := by decide +kernel
theorem dLaw_936 : decode code 936 = .ok (.iconst 1, 1) := by decide +kernel
theorem dLaw_937 : decode code 937 = .ok (.iadd, 1) := by decide +kernel
theorem dLaw_938 : decode code 938 = .ok (.iaload, 1) := by decide +kernel
theorem dLaw_939 : decode code 939 = .ok (.aload_n 0, 1) := by decide +kernel
theorem dLaw_940 : decode code 940 = .ok (.iload_n 3, 1) := by decide +kernel
theorem dLaw_941 : decode code 941 = .ok (.iconst 2, 1) := by decide +kernel
theorem dLaw_942 : decode code 942 = .ok (.iadd, 1) := by decide +kernel
theorem dLaw_943 : decode code 943 = .ok (.iaload, 1) := by decide +kernel
theorem dLaw_944 : decode code 944 = .ok (.invokevirtual 127, 3) := by decide +kernel
theorem dLaw_947 : decode code 947 = .ok (.aload_n 2, 1) := by decide +kernel
theorem dLaw_948 : decode code 948 = .ok (.aload_n 0, 1) := by decide +kernel
theorem dLaw_949 : decode code 949 = .ok (.iload_n 3, 1) := by decide +kernel
theorem dLaw_950 : decode code 950 = .ok (.iconst 1, 1) := by decide +kernel
theorem dLaw_951 : decode code 951 = .ok (.iadd, 1) := by decide +kernel
theorem dLaw_952 : decode code 952 = .ok (.iaload, 1) := by decide +kernel
theorem dLaw_953 : decode code 953 = .ok (.aload_n 0, 1) := by decide +kernel
theorem dLaw_954 : decode code 954 = .ok (.iload_n 3, 1) := by decide +kernel
theorem dLaw_955 : decode code 955 = .ok (.iconst 2, 1) := by decide +kernel
theorem dLaw_956 : decode code 956 = .ok (.iadd, 1) := by decide +kernel
theorem dLaw_957 : decode code 957 = .ok (.iaload, 1) := by decide +kernel
theorem dLaw_958 : decode code 958 = .ok (.invokevirtual 130, 3) := by decide +kernel
theorem dLaw_961 : decode code 961 = .ok (.if_icmp .eq 366, 3) := by decide +kernel
theorem dLaw_964 : decode code 964 = .ok (.iconst 0, 1) := by decide +kernel
theorem dLaw_965 : decode code 965 = .ok (.ireturn, 1) := by decide +kernel
theorem dLaw_966 : decode code 966 = .ok (.aload_n 1, 1) := by decide +kernel
theorem dLaw_967 : decode code 967 = .ok (.invokevirtual 131, 3) := by decide +kernel
theorem dLaw_970 : decode code 970 = .ok (.aload_n 2, 1) := by decide +kernel
theorem dLaw_971 : decode code 971 = .ok (.invokevirtual 134, 3) := by decide +kernel
theorem dLaw_974 : decode code 974 = .ok (.if_icmp .eq 353, 3) := by decide +kernel
theorem dLaw_977 : decode code 977 = .ok (.iconst 0, 1) := by decide +kernel
theorem dLaw_978 : decode code 978 = .ok (.ireturn, 1) := by decide +kernel
theorem dLaw_979 : decode code 979 = .ok (.aload_n 1, 1) := by decide +kernel
theorem dLaw_980 : decode code 980 = .ok (.invokevirtual 135, 3) := by decide +kernel
theorem dLaw_983 : decode code 983 = .ok (.aload_n 2, 1) := by decide +kernel
theorem dLaw_984 : decode code 984 = .ok (.invokevirtual 138, 3) := by decide +kernel
theorem dLaw_987 : decode code 987 = .ok (.if_icmp .eq 340, 3) := by decide +kernel
theorem dLaw_990 : decode code 990 = .ok (.iconst 0, 1) := by decide +kernel
theorem dLaw_991 : decode code 991 = .ok (.ireturn, 1) := by decide +kernel
theorem dLaw_992 : decode code 992 = .ok (.aload_n 1, 1) := by decide +kernel
theorem dLaw_993 : decode code 993 = .ok (.aload_n 0, 1) := by decide +kernel
theorem dLaw_994 : decode code 994 = .ok (.iload_n 3, 1) := by decide +kernel
theorem dLaw_995 : decode code 995 = .ok (.iconst 1, 1) := by decide +kernel
theorem dLaw_996 : decode code 996 = .ok (.iadd, 1) := by decide +kernel
theorem dLaw_997 : decode code 997 = .ok (.iaload, 1) := by decide +kernel
theorem dLaw_998 : decode code 998 = .ok (.aload_n 0, 1) := by decide +kernel
theorem dLaw_999 : decode code 999 = .ok (.iload_n 3, 1) := by decide +kernel
theorem dLaw_1000 : decode code 1000 = .ok (.iconst 2, 1) := by decide +kernel
theorem dLaw_1001 : decode code 1001 = .ok (.iadd, 1) := by decide +kernel
theorem dLaw_1002 : decode code 1002 = .ok (.iaload, 1) := by decide +kernel
theorem dLaw_1003 : decode code 1003 = .ok (.aload_n 0, 1) := by decide +kernel
theorem dLaw_1004 : decode code 1004 = .ok (.iload_n 3, 1) := by decide +kernel
theorem dLaw_1005 : decode code 1005 = .ok (.iconst 3, 1) := by decide +kernel
theorem dLaw_1006 : decode code 1006 = .ok (.iadd, 1) := by decide +kernel
theorem dLaw_1007 : decode code 1007 = .ok (.iaload, 1) := by decide +kernel
theorem dLaw_1008 : decode code 1008 = .ok (.invokevirtual 139, 3) := by decide +kernel
theorem dLaw_1011 : decode code 1011 = .ok (.aload_n 2, 1) := by decide +kernel
theorem dLaw_1012 : decode code 1012 = .ok (.aload_n 0, 1) := by decide +kernel
theorem dLaw_1013 : decode code 1013 = .ok (.iload_n 3, 1) := by decide +kernel
theorem dLaw_1014 : decode code 1014 = .ok (.iconst 1, 1) := by decide +kernel
theorem dLaw_1015 : decode code 1015 = .ok (.iadd, 1) := by decide +kernel
theorem dLaw_1016 : decode code 1016 = .ok (.iaload, 1) := by decide +kernel
theorem dLaw_1017 : decode code 1017 = .ok (.aload_n 0, 1) := by decide +kernel
theorem dLaw_1018 : decode code 1018 = .ok (.iload_n 3, 1) := by decide +kernel
theorem dLaw_1019 : decode code 1019 = .ok (.iconst 2, 1) := by decide +kernel
theorem dLaw_1020 : decode code 1020 = .ok (.iadd, 1) := by decide +kernel
theorem dLaw_1021 : decode code 1021 = .ok (.iaload, 1) := by decide +kernel
theorem dLaw_1022 : decode code 1022 = .ok (.aload_n 0, 1) := by decide +kernel
theorem dLaw_1023 : decode code 1023 = .ok (.iload_n 3, 1) := by decide +kernel
theorem dLaw_1024 : decode code 1024 = .ok (.iconst 3, 1) := by decide +kernel
theorem dLaw_1025 : decode code 1025 = .ok (.iadd, 1) := by decide +kernel
theorem dLaw_1026 : decode code 1026 = .ok (.iaload, 1) := by decide +kernel
theorem dLaw_1027 : decode code 1027 = .ok (.invokevirtual 142, 3) := by decide +kernel
theorem dLaw_1030 : decode code 1030 = .ok (.if_icmp .eq 297, 3) := by decide +kernel
theorem dLaw_1033 : decode code 1033 = .ok (.iconst 0, 1) := by decide +kernel
theorem dLaw_1034 : decode code 1034 = .ok (.ireturn, 1) := by decide +kernel
theorem dLaw_1035 : decode code 1035 = .ok (.aload_n 1, 1) := by decide +kernel
theorem dLaw_1036 : decode code 1036 = .ok (.aload_n 0, 1) := by decide +kernel
theorem dLaw_1037 : decode code 1037 = .ok (.iload_n 3, 1) := by decide +kernel
theorem dLaw_1038 : decode code 1038 = .ok (.iconst 1, 1) := by decide +kernel
theorem dLaw_1039 : decode code 1039 = .ok (.iadd, 1) := by decide +kernel
theorem dLaw_1040 : decode code 1040 = .ok (.iaload, 1) := by decide +kernel
theorem dLaw_1041 : decode code 1041 = .ok (.invokevirtual 143, 3) := by decide +kernel
theorem dLaw_1044 : decode code 1044 = .ok (.aload_n 2, 1) := by decide +kernel
theorem dLaw_1045 : decode code 1045 = .ok (.aload_n 0, 1) := by decide +kernel
theorem dLaw_1046 : decode code 1046 = .ok (.iload_n 3, 1) := by decide +kernel
theorem dLaw_1047 : decode code 1047 = .ok (.iconst 1, 1) := by decide +kernel
theorem dLaw_1048 : decode code 1048 = .ok (.iadd, 1) := by decide +kernel
theorem dLaw_1049 : decode code 1049 = .ok (.iaload, 1) := by decide +kernel
theorem dLaw_1050 : decode code 1050 = .ok (.invokevirtual 146, 3) := by decide +kernel
theorem dLaw_1053 : decode code 1053 = .ok (.if_icmp .eq 274, 3) := by decide +kernel
theorem dLaw_1056 : decode code 1056 = .ok (.iconst 0, 1) := by decide +kernel
theorem dLaw_1057 : decode code 1057 = .ok (.ireturn, 1) := by decide +kernel
theorem dLaw_1058 : decode code 1058 = .ok (.aload_n 1, 1) := by decide +kernel
theorem dLaw_1059 : decode code 1059 = .ok (.aload_n 0, 1) := by decide +kernel
theorem dLaw_1060 : decode code 1060 = .ok (.iload_n 3, 1) := by decide +kernel
theorem dLaw_1061 : decode code 1061 = .ok (.iconst 1, 1) := by decide +kernel
theorem dLaw_1062 : decode code 1062 = .ok (.iadd, 1) := by decide +kernel
theorem dLaw_1063 : decode code 1063 = .ok (.iaload, 1) := by decide +kernel
theorem dLaw_1064 : decode code 1064 = .ok (.aload_n 0, 1) := by decide +kernel
theorem dLaw_1065 : decode code 1065 = .ok (.iload_n 3, 1) := by decide +kernel
theorem dLaw_1066 : decode code 1066 = .ok (.iconst 2, 1) := by decide +kernel
theorem dLaw_1067 : decode code 1067 = .ok (.iadd, 1) := by decide +kernel
theorem dLaw_1068 : decode code 1068 = .ok (.iaload, 1) := by decide +kernel
theorem dLaw_1069 : decode code 1069 = .ok (.invokevirtual 147, 3) := by decide +kernel
theorem dLaw_1072 : decode code 1072 = .ok (.aload_n 2, 1) := by decide +kernel
theorem dLaw_1073 : decode code 1073 = .ok (.aload_n 0, 1) := by decide +kernel
theorem dLaw_1074 : decode code 1074 = .ok (.iload_n 3, 1) := by decide +kernel
theorem dLaw_1075 : decode code 1075 = .ok (.iconst 1, 1) := by decide +kernel
theorem dLaw_1076 : decode code 1076 = .ok (.iadd, 1) := by decide +kernel
theorem dLaw_1077 : decode code 1077 = .ok (.iaload, 1) := by decide +kernel
theorem dLaw_1078 : decode code 1078 = .ok (.aload_n 0, 1) := by decide +kernel
theorem dLaw_1079 : decode code 1079 = .ok (.iload_n 3, 1) := by decide +kernel
theorem dLaw_1080 : decode code 1080 = .ok (.iconst 2, 1) := by decide +kernel
theorem dLaw_1081 : decode code 1081 = .ok (.iadd, 1) := by decide +kernel
theorem dLaw_1082 : decode code 1082 = .ok (.iaload, 1) := by decide +kernel
theorem dLaw_1083 : decode code 1083 = .ok (.invokevirtual 150, 3) := by decide +kernel
theorem dLaw_1086 : decode code 1086 = .ok (.if_icmp .eq 241, 3) := by decide +kernel
theorem dLaw_1089 : decode code 1089 = .ok (.iconst 0, 1) := by decide +kernel
theorem dLaw_1090 : decode code 1090 = .ok (.ireturn, 1) := by decide +kernel
theorem dLaw_1091 : decode code 1091 = .ok (.aload_n 1, 1) := by decide +kernel
theorem dLaw_1092 : decode code 1092 = .ok (.aload_n 0, 1) := by decide +kernel
theorem dLaw_1093 : decode code 1093 = .ok (.iload_n 3, 1) := by decide +kernel
theorem dLaw_1094 : decode code 1094 = .ok (.iconst 1, 1) := by decide +kernel
theorem dLaw_1095 : decode code 1095 = .ok (.iadd, 1) := by decide +kernel
theorem dLaw_1096 : decode code 1096 = .ok (.iaload, 1) := by decide +kernel
theorem dLaw_1097 : decode code 1097 = .ok (.invokevirtual 151, 3) := by decide +kernel
theorem dLaw_1100 : decode code 1100 = .ok (.aload_n 2, 1) := by decide +kernel
theorem dLaw_1101 : decode code 1101 = .ok (.aload_n 0, 1) := by decide +kernel
theorem dLaw_1102 : decode code 1102 = .ok (.iload_n 3, 1) := by decide +kernel
theorem dLaw_1103 : decode code 1103 = .ok (.iconst 1, 1) := by decide +kernel
theorem dLaw_1104 : decode code 1104 = .ok (.iadd, 1) := by decide +kernel
theorem dLaw_1105 : decode code 1105 = .ok (.iaload, 1) := by decide +kernel
theorem dLaw_1106 : decode code 1106 = .ok (.invokevirtual 154, 3) := by decide +kernel
theorem dLaw_1109 : decode code 1109 = .ok (.if_icmp .eq 218, 3) := by decide +kernel
theorem dLaw_1112 : decode code 1112 = .ok (.iconst 0, 1) := by decide +kernel
theorem dLaw_1113 : decode code 1113 = .ok (.ireturn, 1) := by decide +kernel
theorem dLaw_1114 : decode code 1114 = .ok (.aload_n 1, 1) := by decide +kernel
theorem dLaw_1115 : decode code 1115 = .ok (.aload_n 0, 1) := by decide +kernel
theorem dLaw_1116 : decode code 1116 = .ok (.iload_n 3, 1) := by decide +kernel
theorem dLaw_1117 : decode code 1117 = .ok (.iconst 1, 1) := by decide +kernel
theorem dLaw_1118 : decode code 1118 = .ok (.iadd, 1) := by decide +kernel
theorem dLaw_1119 : decode code 1119 = .ok (.iaload, 1) := by decide +kernel
theorem dLaw_1120 : decode code 1120 = .ok (.aload_n 0, 1) := by decide +kernel
theorem dLaw_1121 : decode code 1121 = .ok (.iload_n 3, 1) := by decide +kernel
theorem dLaw_1122 : decode code 1122 = .ok (.iconst 2, 1) := by decide +kernel
theorem dLaw_1123 : decode code 1123 = .ok (.iadd, 1) := by decide +kernel
theorem dLaw_1124 : decode code 1124 = .ok (.iaload, 1) := by decide +kernel
theorem dLaw_1125 : decode code 1125 = .ok (.aload_n 0, 1) := by decide +kernel
theorem dLaw_1126 : decode code 1126 = .ok (.iload_n 3, 1) := by decide +kernel
theorem dLaw_1127 : decode code 1127 = .ok (.iconst 3, 1) := by decide +kernel
theorem dLaw_1128 : decode code 1128 = .ok (.iadd, 1) := by decide +kernel
theorem dLaw_1129 : decode code 1129 = .ok (.iaload, 1) := by decide +kernel
theorem dLaw_1130 : decode code 1130 = .ok (.invokevirtual 155, 3) := by decide +kernel
theorem dLaw_1133 : decode code 1133 = .ok (.aload_n 2, 1) := by decide +kernel
theorem dLaw_1134 : decode code 1134 = .ok (.aload_n 0, 1) := by decide +kernel
theorem dLaw_1135 : decode code 1135 = .ok (.iload_n 3, 1) := by decide +kernel
theorem dLaw_1136 : decode code 1136 = .ok (.iconst 1, 1) := by decide +kernel
theorem dLaw_1137 : decode code 1137 = .ok (.iadd, 1) := by decide +kernel
theorem dLaw_1138 : decode code 1138 = .ok (.iaload, 1) := by decide +kernel
theorem dLaw_1139 : decode code 1139 = .ok (.aload_n 0, 1) := by decide +kernel
theorem dLaw_1140 : decode code 1140 = .ok (.iload_n 3, 1) := by decide +kernel
theorem dLaw_1141 : decode code 1141 = .ok (.iconst 2, 1) := by decide +kernel
theorem dLaw_1142 : decode code 1142 = .ok (.iadd, 1) := by decide +kernel
theorem dLaw_1143 : decode code 1143 = .ok (.iaload, 1) := by decide +kernel
theorem dLaw_1144 : decode code 1144 = .ok (.aload_n 0, 1) := by decide +kernel
theorem dLaw_1145 : decode code 1145 = .ok (.iload_n 3, 1) := by decide +kernel
theorem dLaw_1146 : decode code 1146 = .ok (.iconst 3, 1) := by decide +kernel
theorem dLaw_1147 : decode code 1147 = .ok (.iadd, 1) := by decide +kernel
theorem dLaw_1148 : decode code 1148 = .ok (.iaload, 1) := by decide +kernel
theorem dLaw_1149 : decode code 1149 = .ok (.invokevirtual 158, 3) := by decide +kernel
theorem dLaw_1152 : decode code 1152 = .ok (.if_icmp .eq 175, 3) := by decide +kernel
theorem dLaw_1155 : decode code 1155 = .ok (.iconst 0, 1) := by decide +kernel
theorem dLaw_1156 : decode code 1156 = .ok (.ireturn, 1) := by decide +kernel
theorem dLaw_1157 : decode code 1157 = .ok (.aload_n 1, 1) := by decide +kernel
theorem dLaw_1158 : decode code 1158 = .ok (.aload_n 0, 1) := by decide +kernel
theorem dLaw_1159 : decode code 1159 = .ok (.iload_n 3, 1) := by decide +kernel
theorem dLaw_1160 : decode code 1160 = .ok (.iconst 1, 1) := by decide +kernel
theorem dLaw_1161 : decode code 1161 = .ok (.iadd, 1) := by decide +kernel
theorem dLaw_1162 : decode code 1162 = .ok (.iaload, 1) := by decide +kernel
theorem dLaw_1163 : decode code 1163 = .ok (.aload_n 0, 1) := by decide +kernel
theorem dLaw_1164 : decode code 1164 = .ok (.iload_n 3, 1) := by decide +kernel
theorem dLaw_1165 : decode code 1165 = .ok (.iconst 2, 1) := by decide +kernel
theorem dLaw_1166 : decode code 1166 = .ok (.iadd, 1) := by decide +kernel
theorem dLaw_1167 : decode code 1167 = .ok (.iaload, 1) := by decide +kernel
theorem dLaw_1168 : decode code 1168 = .ok (.aload_n 0, 1) := by decide +kernel
theorem dLaw_1169 : decode code 1169 = .ok (.iload_n 3, 1) := by decide +kernel
theorem dLaw_1170 : decode code 1170 = .ok (.iconst 3, 1) := by decide +kernel
theorem dLaw_1171 : decode code 1171 = .ok (.iadd, 1) := by decide +kernel
theorem dLaw_1172 : decode code 1172 = .ok (.iaload, 1) := by decide +kernel
theorem dLaw_1173 : decode code 1173 = .ok (.i2l, 1) := by decide +kernel
theorem dLaw_1174 : decode code 1174 = .ok (.bipush 32, 2) := by decide +kernel
theorem dLaw_1176 : decode code 1176 = .ok (.lshl, 1) := by decide +kernel
theorem dLaw_1177 : decode code 1177 = .ok (.aload_n 0, 1) := by decide +kernel
theorem dLaw_1178 : decode code 1178 = .ok (.iload_n 3, 1) := by decide +kernel
theorem dLaw_1179 : decode code 1179 = .ok (.iconst 4, 1) := by decide +kernel
theorem dLaw_1180 : decode code 1180 = .ok (.iadd, 1) := by decide +kernel
theorem dLaw_1181 : decode code 1181 = .ok (.iaload, 1) := by decide +kernel
theorem dLaw_1182 : decode code 1182 = .ok (.i2l, 1) := by decide +kernel
theorem dLaw_1183 : decode code 1183 = .ok (.ldc2_w 159, 3) := by decide +kernel
theorem dLaw_1186 : decode code 1186 = .ok (.land, 1) := by decide +kernel
theorem dLaw_1187 : decode code 1187 = .ok (.lor, 1) := by decide +kernel
theorem dLaw_1188 : decode code 1188 = .ok (.invokevirtual 161, 3) := by decide +kernel
theorem dLaw_1191 : decode code 1191 = .ok (.aload_n 2, 1) := by decide +kernel
theorem dLaw_1192 : decode code 1192 = .ok (.aload_n 0, 1) := by decide +kernel
theorem dLaw_1193 : decode code 1193 = .ok (.iload_n 3, 1) := by decide +kernel
theorem dLaw_1194 : decode code 1194 = .ok (.iconst 1, 1) := by decide +kernel
theorem dLaw_1195 : decode code 1195 = .ok (.iadd, 1) := by decide +kernel
theorem dLaw_1196 : decode code 1196 = .ok (.iaload, 1) := by decide +kernel
theorem dLaw_1197 : decode code 1197 = .ok (.aload_n 0, 1) := by decide +kernel
theorem dLaw_1198 : decode code 1198 = .ok (.iload_n 3, 1) := by decide +kernel
theorem dLaw_1199 : decode code 1199 = .ok (.iconst 2, 1) := by decide +kernel
theorem dLaw_1200 : decode code 1200 = .ok (.iadd, 1) := by decide +kernel
theorem dLaw_1201 : decode code 1201 = .ok (.iaload, 1) := by decide +kernel
theorem dLaw_1202 : decode code 1202 = .ok (.aload_n 0, 1) := by decide +kernel
theorem dLaw_1203 : decode code 1203 = .ok (.iload_n 3, 1) := by decide +kernel
theorem dLaw_1204 : decode code 1204 = .ok (.iconst 3, 1) := by decide +kernel
theorem dLaw_1205 : decode code 1205 = .ok (.iadd, 1) := by decide +kernel
theorem dLaw_1206 : decode code 1206 = .ok (.iaload, 1) := by decide +kernel
theorem dLaw_1207 : decode code 1207 = .ok (.i2l, 1) := by decide +kernel
theorem dLaw_1208 : decode code 1208 = .ok (.bipush 32, 2) := by decide +kernel
theorem dLaw_1210 : decode code 1210 = .ok (.lshl, 1) := by decide +kernel
theorem dLaw_1211 : decode code 1211 = .ok (.aload_n 0, 1) := by decide +kernel
theorem dLaw_1212 : decode code 1212 = .ok (.iload_n 3, 1) := by decide +kernel
theorem dLaw_1213 : decode code 1213 = .ok (.iconst 4, 1) := by decide +kernel
theorem dLaw_1214 : decode code 1214 = .ok (.iadd, 1) := by decide +kernel
theorem dLaw_1215 : decode code 1215 = .ok (.iaload, 1) := by decide +kernel
theorem dLaw_1216 : decode code 1216 = .ok (.i2l, 1) := by decide +kernel
theorem dLaw_1217 : decode code 1217 = .ok (.ldc2_w 159, 3) := by decide +kernel
theorem dLaw_1220 : decode code 1220 = .ok (.land, 1) := by decide +kernel
theorem dLaw_1221 : decode code 1221 = .ok (.lor, 1) := by decide +kernel
theorem dLaw_1222 : decode code 1222 = .ok (.invokevirtual 165, 3) := by decide +kernel
theorem dLaw_1225 : decode code 1225 = .ok (.if_icmp .eq 102, 3) := by decide +kernel
theorem dLaw_1228 : decode code 1228 = .ok (.iconst 0, 1) := by decide +kernel
theorem dLaw_1229 : decode code 1229 = .ok (.ireturn, 1) := by decide +kernel
theorem dLaw_1230 : decode code 1230 = .ok (.aload_n 1, 1) := by decide +kernel
theorem dLaw_1231 : decode code 1231 = .ok (.aload_n 0, 1) := by decide +kernel
theorem dLaw_1232 : decode code 1232 = .ok (.iload_n 3, 1) := by decide +kernel
theorem dLaw_1233 : decode code 1233 = .ok (.iconst 1, 1) := by decide +kernel
theorem dLaw_1234 : decode code 1234 = .ok (.iadd, 1) := by decide +kernel
theorem dLaw_1235 : decode code 1235 = .ok (.iaload, 1) := by decide +kernel
theorem dLaw_1236 : decode code 1236 = .ok (.aload_n 0, 1) := by decide +kernel
theorem dLaw_1237 : decode code 1237 = .ok (.iload_n 3, 1) := by decide +kernel
theorem dLaw_1238 : decode code 1238 = .ok (.iconst 2, 1) := by decide +kernel
theorem dLaw_1239 : decode code 1239 = .ok (.iadd, 1) := by decide +kernel
theorem dLaw_1240 : decode code 1240 = .ok (.iaload, 1) := by decide +kernel
theorem dLaw_1241 : decode code 1241 = .ok (.invokevirtual 166, 3) := by decide +kernel
theorem dLaw_1244 : decode code 1244 = .ok (.aload_n 2, 1) := by decide +kernel
theorem dLaw_1245 : decode code 1245 = .ok (.aload_n 0, 1) := by decide +kernel
theorem dLaw_1246 : decode code 1246 = .ok (.iload_n 3, 1) := by decide +kernel
theorem dLaw_1247 : decode code 1247 = .ok (.iconst 1, 1) := by decide +kernel
theorem dLaw_1248 : decode code 1248 = .ok (.iadd, 1) := by decide +kernel
theorem dLaw_1249 : decode code 1249 = .ok (.iaload, 1) := by decide +kernel
theorem dLaw_1250 : decode code 1250 = .ok (.aload_n 0, 1) := by decide +kernel
theorem dLaw_1251 : decode code 1251 = .ok (.iload_n 3, 1) := by decide +kernel
theorem dLaw_1252 : decode code 1252 = .ok (.iconst 2, 1) := by decide +kernel
theorem dLaw_1253 : decode code 1253 = .ok (.iadd, 1) := by decide +kernel
theorem dLaw_1254 : decode code 1254 = .ok (.iaload, 1) := by decide +kernel
theorem dLaw_1255 : decode code 1255 = .ok (.invokevirtual 169, 3) := by decide +kernel
theorem dLaw_1258 : decode code 1258 = .ok (.lcmp, 1) := by decide +kernel
theorem dLaw_1259 : decode code 1259 = .ok (.ifCond .eq 68, 3) := by decide +kernel
theorem dLaw_1262 : decode code 1262 = .ok (.iconst 0, 1) := by decide +kernel
theorem dLaw_1263 : decode code 1263 = .ok (.ireturn, 1) := by decide +kernel
theorem dLaw_1264 : decode code 1264 = .ok (.aload_n 1, 1) := by decide +kernel
theorem dLaw_1265 : decode code 1265 = .ok (.aload_n 0, 1) := by decide +kernel
theorem dLaw_1266 : decode code 1266 = .ok (.iload_n 3, 1) := by decide +kernel
theorem dLaw_1267 : decode code 1267 = .ok (.iconst 1, 1) := by decide +kernel
theorem dLaw_1268 : decode code 1268 = .ok (.iadd, 1) := by decide +kernel
theorem dLaw_1269 : decode code 1269 = .ok (.iaload, 1) := by decide +kernel
theorem dLaw_1270 : decode code 1270 = .ok (.aload_n 0, 1) := by decide +kernel
theorem dLaw_1271 : decode code 1271 = .ok (.iload_n 3, 1) := by decide +kernel
theorem dLaw_1272 : decode code 1272 = .ok (.iconst 2, 1) := by decide +kernel
theorem dLaw_1273 : decode code 1273 = .ok (.iadd, 1) := by decide +kernel
theorem dLaw_1274 : decode code 1274 = .ok (.iaload, 1) := by decide +kernel
theorem dLaw_1275 : decode code 1275 = .ok (.aload_n 0, 1) := by decide +kernel
theorem dLaw_1276 : decode code 1276 = .ok (.iload_n 3, 1) := by decide +kernel
theorem dLaw_1277 : decode code 1277 = .ok (.iconst 3, 1) := by decide +kernel
theorem dLaw_1278 : decode code 1278 = .ok (.iadd, 1) := by decide +kernel
theorem dLaw_1279 : decode code 1279 = .ok (.iaload, 1) := by decide +kernel
theorem dLaw_1280 : decode code 1280 = .ok (.aload_n 0, 1) := by decide +kernel
theorem dLaw_1281 : decode code 1281 = .ok (.iload_n 3, 1) := by decide +kernel
theorem dLaw_1282 : decode code 1282 = .ok (.iconst 4, 1) := by decide +kernel
theorem dLaw_1283 : decode code 1283 = .ok (.iadd, 1) := by decide +kernel
theorem dLaw_1284 : decode code 1284 = .ok (.iaload, 1) := by decide +kernel
theorem dLaw_1285 : decode code 1285 = .ok (.aload_n 0, 1) := by decide +kernel
theorem dLaw_1286 : decode code 1286 = .ok (.iload_n 3, 1) := by decide +kernel
theorem dLaw_1287 : decode code 1287 = .ok (.iconst 5, 1) := by decide +kernel
theorem dLaw_1288 : decode code 1288 = .ok (.iadd, 1) := by decide +kernel
theorem dLaw_1289 : decode code 1289 = .ok (.iaload, 1) := by decide +kernel
theorem dLaw_1290 : decode code 1290 = .ok (.invokevirtual 170, 3) := by decide +kernel
theorem dLaw_1293 : decode code 1293 = .ok (.aload_n 2, 1) := by decide +kernel
theorem dLaw_1294 : decode code 1294 = .ok (.aload_n 0, 1) := by decide +kernel
theorem dLaw_1295 : decode code 1295 = .ok (.iload_n 3, 1) := by decide +kernel
theorem dLaw_1296 : decode code 1296 = .ok (.iconst 1, 1) := by decide +kernel
theorem dLaw_1297 : decode code 1297 = .ok (.iadd, 1) := by decide +kernel
theorem dLaw_1298 : decode code 1298 = .ok (.iaload, 1) := by decide +kernel
theorem dLaw_1299 : decode code 1299 = .ok (.aload_n 0, 1) := by decide +kernel
theorem dLaw_1300 : decode code 1300 = .ok (.iload_n 3, 1) := by decide +kernel
theorem dLaw_1301 : decode code 1301 = .ok (.iconst 2, 1) := by decide +kernel
theorem dLaw_1302 : decode code 1302 = .ok (.iadd, 1) := by decide +kernel
theorem dLaw_1303 : decode code 1303 = .ok (.iaload, 1) := by decide +kernel
theorem dLaw_1304 : decode code 1304 = .ok (.aload_n 0, 1) := by decide +kernel
theorem dLaw_1305 : decode code 1305 = .ok (.iload_n 3, 1) := by decide +kernel
theorem dLaw_1306 : decode code 1306 = .ok (.iconst 3, 1) := by decide +kernel
theorem dLaw_1307 : decode code 1307 = .ok (.iadd, 1) := by decide +kernel
theorem dLaw_1308 : decode code 1308 = .ok (.iaload, 1) := by decide +kernel
theorem dLaw_1309 : decode code 1309 = .ok (.aload_n 0, 1) := by decide +kernel
theorem dLaw_1310 : decode code 1310 = .ok (.iload_n 3, 1) := by decide +kernel
theorem dLaw_1311 : decode code 1311 = .ok (.iconst 4, 1) := by decide +kernel
theorem dLaw_1312 : decode code 1312 = .ok (.iadd, 1) := by decide +kernel
theorem dLaw_1313 : decode code 1313 = .ok (.iaload, 1) := by decide +kernel
theorem dLaw_1314 : decode code 1314 = .ok (.aload_n 0, 1) := by decide +kernel
theorem dLaw_1315 : decode code 1315 = .ok (.iload_n 3, 1) := by decide +kernel
theorem dLaw_1316 : decode code 1316 = .ok (.iconst 5, 1) := by decide +kernel
theorem dLaw_1317 : decode code 1317 = .ok (.iadd, 1) := by decide +kernel
theorem dLaw_1318 : decode code 1318 = .ok (.iaload, 1) := by decide +kernel
theorem dLaw_1319 : decode code 1319 = .ok (.invokevirtual 174, 3) := by decide +kernel
theorem dLaw_1322 : decode code 1322 = .ok (.if_icmp .eq 5, 3) := by decide +kernel
theorem dLaw_1325 : decode code 1325 = .ok (.iconst 0, 1) := by decide +kernel
theorem dLaw_1326 : decode code 1326 = .ok (.ireturn, 1) := by decide +kernel
theorem dLaw_1327 : decode code 1327 = .ok (.iinc 3 6, 3) := by decide +kernel
theorem dLaw_1330 : decode code 1330 = .ok (.goto (-1312), 3) := by decide +kernel
theorem dLaw_1333 : decode code 1333 = .ok (.iconst 1, 1) := by decide +kernel
theorem dLaw_1334 : decode code 1334 = .ok (.ireturn, 1) := by decide +kernel
