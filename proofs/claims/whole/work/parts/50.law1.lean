section LawC
variable {p : Program} {e : Env} {s : State} {m : MethodId} {below : List Frame} {meth : Method} {c : Code} {g : GC} {b Ln : Nat} {xs : Nat → Int32} {M : MI} {L : ML}
set_option maxRecDepth 100000 in
set_option maxHeartbeats 4000000 in
theorem ls_0 {k : Nat} (C : LX p s m meth c g b Ln xs) (hL : Ln ≤ 3072) (hk : 6 * k + 6 ≤ Ln) (hI : INV M L) (kk : ∀ M1 L1, INV M1 L1 → Tl p e s m below meth c g b 1173 (lcs g b k) [] M1 L1) : Tl p e s m below meth c g b 192 (lcs g b k) [] M L := by
  obtain ⟨Q1, h1, k1⟩ := pr_voters (g := g) hI (x := xs (6 * k + 1))
  refine tl_aload_1 C rfl 193 rfl dL_law_192 ?_
  refine tl_arg (j := 1) C hL hk (by decide) rfl 198 rfl dL_law_193 dL_law_194 dL_law_195 dL_law_196 dL_law_197 ?_
  refine tl_callI (ci := 8) C h1 mv_X9_voters ml_L_13 rfl rfl rfl rfl rfl (Nat.le_of_ble_eq_true rfl) 201 rfl dL_law_198 (fun r1 M1 L1 q1 => ?_)
  obtain ⟨Q2, h2, k2⟩ := k1 r1 M1 L1 q1
  refine tl_aload_2 C rfl 202 rfl dL_law_201 ?_
  refine tl_arg (j := 1) C hL hk (by decide) rfl 207 rfl dL_law_202 dL_law_203 dL_law_204 dL_law_205 dL_law_206 ?_
  refine tl_callI (ci := 9) C h2 mv_X10_voters ml_L_17 rfl rfl rfl rfl rfl (Nat.le_of_ble_eq_true rfl) 210 rfl dL_law_207 (fun r2 M2 L2 q2 => ?_)
  obtain ⟨e1, hI2⟩ := k2 r2 M2 L2 q2
  exact tl_icmp_eq C 1173 e1 rfl dL_law_210 (kk M2 L2 hI2)
set_option maxRecDepth 100000 in
set_option maxHeartbeats 4000000 in
theorem ls_1 {k : Nat} (C : LX p s m meth c g b Ln xs) (hL : Ln ≤ 3072) (hk : 6 * k + 6 ≤ Ln) (hI : INV M L) (kk : ∀ M1 L1, INV M1 L1 → Tl p e s m below meth c g b 1173 (lcs g b k) [] M1 L1) : Tl p e s m below meth c g b 215 (lcs g b k) [] M L := by
  obtain ⟨Q1, h1, k1⟩ := pr_say (g := g) hI (x := xs (6 * k + 1)) (y := xs (6 * k + 2))
  refine tl_aload_1 C rfl 216 rfl dL_law_215 ?_
  refine tl_arg (j := 1) C hL hk (by decide) rfl 221 rfl dL_law_216 dL_law_217 dL_law_218 dL_law_219 dL_law_220 ?_
  refine tl_arg (j := 2) C hL hk (by decide) rfl 226 rfl dL_law_221 dL_law_222 dL_law_223 dL_law_224 dL_law_225 ?_
  refine tl_callI (ci := 8) C h1 mv_X9_say ml_L_18 rfl rfl rfl rfl rfl (Nat.le_of_ble_eq_true rfl) 229 rfl dL_law_226 (fun r1 M1 L1 q1 => ?_)
  obtain ⟨Q2, h2, k2⟩ := k1 r1 M1 L1 q1
  refine tl_aload_2 C rfl 230 rfl dL_law_229 ?_
  refine tl_arg (j := 1) C hL hk (by decide) rfl 235 rfl dL_law_230 dL_law_231 dL_law_232 dL_law_233 dL_law_234 ?_
  refine tl_arg (j := 2) C hL hk (by decide) rfl 240 rfl dL_law_235 dL_law_236 dL_law_237 dL_law_238 dL_law_239 ?_
  refine tl_callI (ci := 9) C h2 mv_X10_say ml_L_22 rfl rfl rfl rfl rfl (Nat.le_of_ble_eq_true rfl) 243 rfl dL_law_240 (fun r2 M2 L2 q2 => ?_)
  obtain ⟨e1, hI2⟩ := k2 r2 M2 L2 q2
  exact tl_icmp_eq C 1173 e1 rfl dL_law_243 (kk M2 L2 hI2)
set_option maxRecDepth 100000 in
set_option maxHeartbeats 4000000 in
theorem ls_2 {k : Nat} (C : LX p s m meth c g b Ln xs) (hL : Ln ≤ 3072) (hk : 6 * k + 6 ≤ Ln) (hI : INV M L) (kk : ∀ M1 L1, INV M1 L1 → Tl p e s m below meth c g b 1173 (lcs g b k) [] M1 L1) : Tl p e s m below meth c g b 248 (lcs g b k) [] M L := by
  obtain ⟨Q1, h1, k1⟩ := pr_code (g := g) hI (x := xs (6 * k + 1))
  refine tl_aload_1 C rfl 249 rfl dL_law_248 ?_
  refine tl_arg (j := 1) C hL hk (by decide) rfl 254 rfl dL_law_249 dL_law_250 dL_law_251 dL_law_252 dL_law_253 ?_
  refine tl_callI (ci := 8) C h1 mv_X9_code ml_L_23 rfl rfl rfl rfl rfl (Nat.le_of_ble_eq_true rfl) 257 rfl dL_law_254 (fun r1 M1 L1 q1 => ?_)
  obtain ⟨Q2, h2, k2⟩ := k1 r1 M1 L1 q1
  refine tl_aload_2 C rfl 258 rfl dL_law_257 ?_
  refine tl_arg (j := 1) C hL hk (by decide) rfl 263 rfl dL_law_258 dL_law_259 dL_law_260 dL_law_261 dL_law_262 ?_
  refine tl_callI (ci := 9) C h2 mv_X10_code ml_L_26 rfl rfl rfl rfl rfl (Nat.le_of_ble_eq_true rfl) 266 rfl dL_law_263 (fun r2 M2 L2 q2 => ?_)
  obtain ⟨e1, hI2⟩ := k2 r2 M2 L2 q2
  exact tl_icmp_eq C 1173 e1 rfl dL_law_266 (kk M2 L2 hI2)
set_option maxRecDepth 100000 in
set_option maxHeartbeats 4000000 in
theorem ls_3 {k : Nat} (C : LX p s m meth c g b Ln xs) (hL : Ln ≤ 3072) (hk : 6 * k + 6 ≤ Ln) (hI : INV M L) (kk : ∀ M1 L1, INV M1 L1 → Tl p e s m below meth c g b 1173 (lcs g b k) [] M1 L1) : Tl p e s m below meth c g b 271 (lcs g b k) [] M L := by
  obtain ⟨Q1, h1, k1⟩ := pr_weight (g := g) hI (x := xs (6 * k + 1)) (y := xs (6 * k + 2))
  refine tl_aload_1 C rfl 272 rfl dL_law_271 ?_
  refine tl_arg (j := 1) C hL hk (by decide) rfl 277 rfl dL_law_272 dL_law_273 dL_law_274 dL_law_275 dL_law_276 ?_
  refine tl_arg (j := 2) C hL hk (by decide) rfl 282 rfl dL_law_277 dL_law_278 dL_law_279 dL_law_280 dL_law_281 ?_
  refine tl_callI (ci := 8) C h1 mv_X9_weight ml_L_27 rfl rfl rfl rfl rfl (Nat.le_of_ble_eq_true rfl) 285 rfl dL_law_282 (fun r1 M1 L1 q1 => ?_)
  obtain ⟨Q2, h2, k2⟩ := k1 r1 M1 L1 q1
  refine tl_aload_2 C rfl 286 rfl dL_law_285 ?_
  refine tl_arg (j := 1) C hL hk (by decide) rfl 291 rfl dL_law_286 dL_law_287 dL_law_288 dL_law_289 dL_law_290 ?_
  refine tl_arg (j := 2) C hL hk (by decide) rfl 296 rfl dL_law_291 dL_law_292 dL_law_293 dL_law_294 dL_law_295 ?_
  refine tl_callI (ci := 9) C h2 mv_X10_weight ml_L_30 rfl rfl rfl rfl rfl (Nat.le_of_ble_eq_true rfl) 299 rfl dL_law_296 (fun r2 M2 L2 q2 => ?_)
  obtain ⟨e1, hI2⟩ := k2 r2 M2 L2 q2
  exact tl_icmp_eq C 1173 e1 rfl dL_law_299 (kk M2 L2 hI2)
set_option maxRecDepth 100000 in
set_option maxHeartbeats 4000000 in
theorem ls_4 {k : Nat} (C : LX p s m meth c g b Ln xs) (hL : Ln ≤ 3072) (hk : 6 * k + 6 ≤ Ln) (hI : INV M L) (kk : ∀ M1 L1, INV M1 L1 → Tl p e s m below meth c g b 1173 (lcs g b k) [] M1 L1) : Tl p e s m below meth c g b 304 (lcs g b k) [] M L := by
  obtain ⟨Q1, h1, k1⟩ := pr_quota (g := g) hI (x := xs (6 * k + 1))
  refine tl_aload_1 C rfl 305 rfl dL_law_304 ?_
  refine tl_arg (j := 1) C hL hk (by decide) rfl 310 rfl dL_law_305 dL_law_306 dL_law_307 dL_law_308 dL_law_309 ?_
  refine tl_callI (ci := 8) C h1 mv_X9_quota ml_L_31 rfl rfl rfl rfl rfl (Nat.le_of_ble_eq_true rfl) 313 rfl dL_law_310 (fun r1 M1 L1 q1 => ?_)
  obtain ⟨Q2, h2, k2⟩ := k1 r1 M1 L1 q1
  refine tl_aload_2 C rfl 314 rfl dL_law_313 ?_
  refine tl_arg (j := 1) C hL hk (by decide) rfl 319 rfl dL_law_314 dL_law_315 dL_law_316 dL_law_317 dL_law_318 ?_
  refine tl_callI (ci := 9) C h2 mv_X10_quota ml_L_34 rfl rfl rfl rfl rfl (Nat.le_of_ble_eq_true rfl) 322 rfl dL_law_319 (fun r2 M2 L2 q2 => ?_)
  obtain ⟨e1, hI2⟩ := k2 r2 M2 L2 q2
  exact tl_icmp_eq C 1173 e1 rfl dL_law_322 (kk M2 L2 hI2)
set_option maxRecDepth 100000 in
set_option maxHeartbeats 4000000 in
theorem ls_5 {k : Nat} (C : LX p s m meth c g b Ln xs) (hL : Ln ≤ 3072) (hk : 6 * k + 6 ≤ Ln) (hI : INV M L) (kk : ∀ M1 L1, INV M1 L1 → Tl p e s m below meth c g b 1173 (lcs g b k) [] M1 L1) : Tl p e s m below meth c g b 327 (lcs g b k) [] M L := by
  obtain ⟨Q1, h1, k1⟩ := pr_weigh (g := g) hI 
  refine tl_aload_1 C rfl 328 rfl dL_law_327 ?_
  refine tl_callI (ci := 8) C h1 mv_X9_weigh ml_L_35 rfl rfl rfl rfl rfl (Nat.le_of_ble_eq_true rfl) 331 rfl dL_law_328 (fun r1 M1 L1 q1 => ?_)
  obtain ⟨Q2, h2, k2⟩ := k1 r1 M1 L1 q1
  refine tl_aload_2 C rfl 332 rfl dL_law_331 ?_
  refine tl_callI (ci := 9) C h2 mv_X10_weigh ml_L_39 rfl rfl rfl rfl rfl (Nat.le_of_ble_eq_true rfl) 335 rfl dL_law_332 (fun r2 M2 L2 q2 => ?_)
  obtain ⟨e1, hI2⟩ := k2 r2 M2 L2 q2
  exact tl_icmp_eq C 1173 e1 rfl dL_law_335 (kk M2 L2 hI2)
set_option maxRecDepth 100000 in
set_option maxHeartbeats 4000000 in
theorem ls_6 {k : Nat} (C : LX p s m meth c g b Ln xs) (hL : Ln ≤ 3072) (hk : 6 * k + 6 ≤ Ln) (hI : INV M L) (kk : ∀ M1 L1, INV M1 L1 → Tl p e s m below meth c g b 1173 (lcs g b k) [] M1 L1) : Tl p e s m below meth c g b 340 (lcs g b k) [] M L := by
  obtain ⟨Q1, h1, k1⟩ := pr_becomes (g := g) hI (x := xs (6 * k + 1))
  refine tl_aload_1 C rfl 341 rfl dL_law_340 ?_
  refine tl_arg (j := 1) C hL hk (by decide) rfl 346 rfl dL_law_341 dL_law_342 dL_law_343 dL_law_344 dL_law_345 ?_
  refine tl_callI (ci := 8) C h1 mv_X9_becomes ml_L_40 rfl rfl rfl rfl rfl (Nat.le_of_ble_eq_true rfl) 349 rfl dL_law_346 (fun r1 M1 L1 q1 => ?_)
  obtain ⟨Q2, h2, k2⟩ := k1 r1 M1 L1 q1
  refine tl_aload_2 C rfl 350 rfl dL_law_349 ?_
  refine tl_arg (j := 1) C hL hk (by decide) rfl 355 rfl dL_law_350 dL_law_351 dL_law_352 dL_law_353 dL_law_354 ?_
  refine tl_callI (ci := 9) C h2 mv_X10_becomes ml_L_43 rfl rfl rfl rfl rfl (Nat.le_of_ble_eq_true rfl) 358 rfl dL_law_355 (fun r2 M2 L2 q2 => ?_)
  obtain ⟨e1, hI2⟩ := k2 r2 M2 L2 q2
  exact tl_icmp_eq C 1173 e1 rfl dL_law_358 (kk M2 L2 hI2)
set_option maxRecDepth 100000 in
set_option maxHeartbeats 4000000 in
theorem ls_7 {k : Nat} (C : LX p s m meth c g b Ln xs) (hL : Ln ≤ 3072) (hk : 6 * k + 6 ≤ Ln) (hI : INV M L) (kk : ∀ M1 L1, INV M1 L1 → Tl p e s m below meth c g b 1173 (lcs g b k) [] M1 L1) : Tl p e s m below meth c g b 363 (lcs g b k) [] M L := by
  obtain ⟨Q1, h1, k1⟩ := pr_turn (g := g) hI (x := xs (6 * k + 1))
  refine tl_aload_1 C rfl 364 rfl dL_law_363 ?_
  refine tl_arg (j := 1) C hL hk (by decide) rfl 369 rfl dL_law_364 dL_law_365 dL_law_366 dL_law_367 dL_law_368 ?_
  refine tl_callI (ci := 8) C h1 mv_X9_turn ml_L_44 rfl rfl rfl rfl rfl (Nat.le_of_ble_eq_true rfl) 372 rfl dL_law_369 (fun r1 M1 L1 q1 => ?_)
  obtain ⟨Q2, h2, k2⟩ := k1 r1 M1 L1 q1
  refine tl_aload_2 C rfl 373 rfl dL_law_372 ?_
  refine tl_arg (j := 1) C hL hk (by decide) rfl 378 rfl dL_law_373 dL_law_374 dL_law_375 dL_law_376 dL_law_377 ?_
  refine tl_callI (ci := 9) C h2 mv_X10_turn ml_L_47 rfl rfl rfl rfl rfl (Nat.le_of_ble_eq_true rfl) 381 rfl dL_law_378 (fun r2 M2 L2 q2 => ?_)
  obtain ⟨e1, hI2⟩ := k2 r2 M2 L2 q2
  exact tl_icmp_eq C 1173 e1 rfl dL_law_381 (kk M2 L2 hI2)
set_option maxRecDepth 100000 in
set_option maxHeartbeats 4000000 in
theorem ls_8 {k : Nat} (C : LX p s m meth c g b Ln xs) (hL : Ln ≤ 3072) (hk : 6 * k + 6 ≤ Ln) (hI : INV M L) (kk : ∀ M1 L1, INV M1 L1 → Tl p e s m below meth c g b 1173 (lcs g b k) [] M1 L1) : Tl p e s m below meth c g b 386 (lcs g b k) [] M L := by
  obtain ⟨Q1, h1, k1⟩ := pr_exchange (g := g) hI (x := xs (6 * k + 1)) (y := xs (6 * k + 2))
  refine tl_aload_1 C rfl 387 rfl dL_law_386 ?_
  refine tl_arg (j := 1) C hL hk (by decide) rfl 392 rfl dL_law_387 dL_law_388 dL_law_389 dL_law_390 dL_law_391 ?_
  refine tl_arg (j := 2) C hL hk (by decide) rfl 397 rfl dL_law_392 dL_law_393 dL_law_394 dL_law_395 dL_law_396 ?_
  refine tl_callI (ci := 8) C h1 mv_X9_exchange ml_L_48 rfl rfl rfl rfl rfl (Nat.le_of_ble_eq_true rfl) 400 rfl dL_law_397 (fun r1 M1 L1 q1 => ?_)
  obtain ⟨Q2, h2, k2⟩ := k1 r1 M1 L1 q1
  refine tl_aload_2 C rfl 401 rfl dL_law_400 ?_
  refine tl_arg (j := 1) C hL hk (by decide) rfl 406 rfl dL_law_401 dL_law_402 dL_law_403 dL_law_404 dL_law_405 ?_
  refine tl_arg (j := 2) C hL hk (by decide) rfl 411 rfl dL_law_406 dL_law_407 dL_law_408 dL_law_409 dL_law_410 ?_
  refine tl_callI (ci := 9) C h2 mv_X10_exchange ml_L_51 rfl rfl rfl rfl rfl (Nat.le_of_ble_eq_true rfl) 414 rfl dL_law_411 (fun r2 M2 L2 q2 => ?_)
  obtain ⟨e1, hI2⟩ := k2 r2 M2 L2 q2
  exact tl_icmp_eq C 1173 e1 rfl dL_law_414 (kk M2 L2 hI2)
set_option maxRecDepth 100000 in
set_option maxHeartbeats 4000000 in
theorem ls_9 {k : Nat} (C : LX p s m meth c g b Ln xs) (hL : Ln ≤ 3072) (hk : 6 * k + 6 ≤ Ln) (hI : INV M L) (kk : ∀ M1 L1, INV M1 L1 → Tl p e s m below meth c g b 1173 (lcs g b k) [] M1 L1) : Tl p e s m below meth c g b 419 (lcs g b k) [] M L := by
  obtain ⟨Q1, h1, k1⟩ := pr_keep (g := g) hI 
  refine tl_aload_1 C rfl 420 rfl dL_law_419 ?_
  refine tl_callI (ci := 8) C h1 mv_X9_keep ml_L_52 rfl rfl rfl rfl rfl (Nat.le_of_ble_eq_true rfl) 423 rfl dL_law_420 (fun r1 M1 L1 q1 => ?_)
  obtain ⟨Q2, h2, k2⟩ := k1 r1 M1 L1 q1
  refine tl_aload_2 C rfl 424 rfl dL_law_423 ?_
  refine tl_callI (ci := 9) C h2 mv_X10_keep ml_L_55 rfl rfl rfl rfl rfl (Nat.le_of_ble_eq_true rfl) 427 rfl dL_law_424 (fun r2 M2 L2 q2 => ?_)
  obtain ⟨e1, hI2⟩ := k2 r2 M2 L2 q2
  exact tl_icmp_eq C 1173 e1 rfl dL_law_427 (kk M2 L2 hI2)
set_option maxRecDepth 100000 in
set_option maxHeartbeats 4000000 in
theorem ls_10 {k : Nat} (C : LX p s m meth c g b Ln xs) (hL : Ln ≤ 3072) (hk : 6 * k + 6 ≤ Ln) (hI : INV M L) (kk : ∀ M1 L1, INV M1 L1 → Tl p e s m below meth c g b 1173 (lcs g b k) [] M1 L1) : Tl p e s m below meth c g b 432 (lcs g b k) [] M L := by
  obtain ⟨Q1, h1, k1⟩ := pr_feed (g := g) hI (x := xs (6 * k + 1))
  refine tl_aload_1 C rfl 433 rfl dL_law_432 ?_
  refine tl_arg (j := 1) C hL hk (by decide) rfl 438 rfl dL_law_433 dL_law_434 dL_law_435 dL_law_436 dL_law_437 ?_
  refine tl_callI (ci := 8) C h1 mv_X9_feed ml_L_56 rfl rfl rfl rfl rfl (Nat.le_of_ble_eq_true rfl) 441 rfl dL_law_438 (fun r1 M1 L1 q1 => ?_)
  obtain ⟨Q2, h2, k2⟩ := k1 r1 M1 L1 q1
  refine tl_aload_2 C rfl 442 rfl dL_law_441 ?_
  refine tl_arg (j := 1) C hL hk (by decide) rfl 447 rfl dL_law_442 dL_law_443 dL_law_444 dL_law_445 dL_law_446 ?_
  refine tl_callI (ci := 9) C h2 mv_X10_feed ml_L_59 rfl rfl rfl rfl rfl (Nat.le_of_ble_eq_true rfl) 450 rfl dL_law_447 (fun r2 M2 L2 q2 => ?_)
  obtain ⟨e1, hI2⟩ := k2 r2 M2 L2 q2
  exact tl_icmp_eq C 1173 e1 rfl dL_law_450 (kk M2 L2 hI2)
set_option maxRecDepth 100000 in
set_option maxHeartbeats 4000000 in
theorem ls_11 {k : Nat} (C : LX p s m meth c g b Ln xs) (hL : Ln ≤ 3072) (hk : 6 * k + 6 ≤ Ln) (hI : INV M L) (kk : ∀ M1 L1, INV M1 L1 → Tl p e s m below meth c g b 1173 (lcs g b k) [] M1 L1) : Tl p e s m below meth c g b 455 (lcs g b k) [] M L := by
  obtain ⟨Q1, h1, k1⟩ := pr_read (g := g) hI 
  refine tl_aload_1 C rfl 456 rfl dL_law_455 ?_
  refine tl_callI (ci := 8) C h1 mv_X9_read ml_L_60 rfl rfl rfl rfl rfl (Nat.le_of_ble_eq_true rfl) 459 rfl dL_law_456 (fun r1 M1 L1 q1 => ?_)
  obtain ⟨Q2, h2, k2⟩ := k1 r1 M1 L1 q1
  refine tl_aload_2 C rfl 460 rfl dL_law_459 ?_
  refine tl_callI (ci := 9) C h2 mv_X10_read ml_L_63 rfl rfl rfl rfl rfl (Nat.le_of_ble_eq_true rfl) 463 rfl dL_law_460 (fun r2 M2 L2 q2 => ?_)
  obtain ⟨e1, hI2⟩ := k2 r2 M2 L2 q2
  exact tl_icmp_eq C 1173 e1 rfl dL_law_463 (kk M2 L2 hI2)
set_option maxRecDepth 100000 in
set_option maxHeartbeats 4000000 in
theorem ls_12 {k : Nat} (C : LX p s m meth c g b Ln xs) (hL : Ln ≤ 3072) (hk : 6 * k + 6 ≤ Ln) (hI : INV M L) (kk : ∀ M1 L1, INV M1 L1 → Tl p e s m below meth c g b 1173 (lcs g b k) [] M1 L1) : Tl p e s m below meth c g b 468 (lcs g b k) [] M L := by
  obtain ⟨Q1, h1, k1⟩ := pr_of (g := g) hI (x := xs (6 * k + 1)) (y := xs (6 * k + 2))
  refine tl_aload_1 C rfl 469 rfl dL_law_468 ?_
  refine tl_arg (j := 1) C hL hk (by decide) rfl 474 rfl dL_law_469 dL_law_470 dL_law_471 dL_law_472 dL_law_473 ?_
  refine tl_arg (j := 2) C hL hk (by decide) rfl 479 rfl dL_law_474 dL_law_475 dL_law_476 dL_law_477 dL_law_478 ?_
  refine tl_callI (ci := 8) C h1 mv_X9_of ml_L_64 rfl rfl rfl rfl rfl (Nat.le_of_ble_eq_true rfl) 482 rfl dL_law_479 (fun r1 M1 L1 q1 => ?_)
  obtain ⟨Q2, h2, k2⟩ := k1 r1 M1 L1 q1
  refine tl_aload_2 C rfl 483 rfl dL_law_482 ?_
  refine tl_arg (j := 1) C hL hk (by decide) rfl 488 rfl dL_law_483 dL_law_484 dL_law_485 dL_law_486 dL_law_487 ?_
  refine tl_arg (j := 2) C hL hk (by decide) rfl 493 rfl dL_law_488 dL_law_489 dL_law_490 dL_law_491 dL_law_492 ?_
  refine tl_callI (ci := 9) C h2 mv_X10_of ml_L_67 rfl rfl rfl rfl rfl (Nat.le_of_ble_eq_true rfl) 496 rfl dL_law_493 (fun r2 M2 L2 q2 => ?_)
  obtain ⟨e1, hI2⟩ := k2 r2 M2 L2 q2
  exact tl_icmp_eq C 1173 e1 rfl dL_law_496 (kk M2 L2 hI2)
set_option maxRecDepth 100000 in
set_option maxHeartbeats 4000000 in
theorem ls_13 {k : Nat} (C : LX p s m meth c g b Ln xs) (hL : Ln ≤ 3072) (hk : 6 * k + 6 ≤ Ln) (hI : INV M L) (kk : ∀ M1 L1, INV M1 L1 → Tl p e s m below meth c g b 1173 (lcs g b k) [] M1 L1) : Tl p e s m below meth c g b 501 (lcs g b k) [] M L := by
  obtain ⟨Q1, h1, k1⟩ := pr_told (g := g) hI (x := xs (6 * k + 1))
  refine tl_aload_1 C rfl 502 rfl dL_law_501 ?_
  refine tl_arg (j := 1) C hL hk (by decide) rfl 507 rfl dL_law_502 dL_law_503 dL_law_504 dL_law_505 dL_law_506 ?_
  refine tl_callI (ci := 8) C h1 mv_X9_told ml_L_68 rfl rfl rfl rfl rfl (Nat.le_of_ble_eq_true rfl) 510 rfl dL_law_507 (fun r1 M1 L1 q1 => ?_)
  obtain ⟨Q2, h2, k2⟩ := k1 r1 M1 L1 q1
  refine tl_aload_2 C rfl 511 rfl dL_law_510 ?_
  refine tl_arg (j := 1) C hL hk (by decide) rfl 516 rfl dL_law_511 dL_law_512 dL_law_513 dL_law_514 dL_law_515 ?_
  refine tl_callI (ci := 9) C h2 mv_X10_told ml_L_71 rfl rfl rfl rfl rfl (Nat.le_of_ble_eq_true rfl) 519 rfl dL_law_516 (fun r2 M2 L2 q2 => ?_)
  obtain ⟨e1, hI2⟩ := k2 r2 M2 L2 q2
  exact tl_icmp_eq C 1173 e1 rfl dL_law_519 (kk M2 L2 hI2)
set_option maxRecDepth 100000 in
set_option maxHeartbeats 4000000 in
theorem ls_14 {k : Nat} (C : LX p s m meth c g b Ln xs) (hL : Ln ≤ 3072) (hk : 6 * k + 6 ≤ Ln) (hI : INV M L) (kk : ∀ M1 L1, INV M1 L1 → Tl p e s m below meth c g b 1173 (lcs g b k) [] M1 L1) : Tl p e s m below meth c g b 524 (lcs g b k) [] M L := by
  obtain ⟨Q1, h1, k1⟩ := pr_weightOf (g := g) hI (x := xs (6 * k + 1)) (y := xs (6 * k + 2))
  refine tl_aload_1 C rfl 525 rfl dL_law_524 ?_
  refine tl_arg (j := 1) C hL hk (by decide) rfl 530 rfl dL_law_525 dL_law_526 dL_law_527 dL_law_528 dL_law_529 ?_
  refine tl_arg (j := 2) C hL hk (by decide) rfl 535 rfl dL_law_530 dL_law_531 dL_law_532 dL_law_533 dL_law_534 ?_
  refine tl_callI (ci := 8) C h1 mv_X9_weightOf ml_L_72 rfl rfl rfl rfl rfl (Nat.le_of_ble_eq_true rfl) 538 rfl dL_law_535 (fun r1 M1 L1 q1 => ?_)
  obtain ⟨Q2, h2, k2⟩ := k1 r1 M1 L1 q1
  refine tl_aload_2 C rfl 539 rfl dL_law_538 ?_
  refine tl_arg (j := 1) C hL hk (by decide) rfl 544 rfl dL_law_539 dL_law_540 dL_law_541 dL_law_542 dL_law_543 ?_
  refine tl_arg (j := 2) C hL hk (by decide) rfl 549 rfl dL_law_544 dL_law_545 dL_law_546 dL_law_547 dL_law_548 ?_
  refine tl_callI (ci := 9) C h2 mv_X10_weightOf ml_L_75 rfl rfl rfl rfl rfl (Nat.le_of_ble_eq_true rfl) 552 rfl dL_law_549 (fun r2 M2 L2 q2 => ?_)
  obtain ⟨e1, hI2⟩ := k2 r2 M2 L2 q2
  exact tl_icmp_eq C 1173 e1 rfl dL_law_552 (kk M2 L2 hI2)
set_option maxRecDepth 100000 in
set_option maxHeartbeats 4000000 in
theorem ls_15 {k : Nat} (C : LX p s m meth c g b Ln xs) (hL : Ln ≤ 3072) (hk : 6 * k + 6 ≤ Ln) (hI : INV M L) (kk : ∀ M1 L1, INV M1 L1 → Tl p e s m below meth c g b 1173 (lcs g b k) [] M1 L1) : Tl p e s m below meth c g b 557 (lcs g b k) [] M L := by
  obtain ⟨Q1, h1, k1⟩ := pr_least (g := g) hI 
  refine tl_aload_1 C rfl 558 rfl dL_law_557 ?_
  refine tl_callI (ci := 8) C h1 mv_X9_least ml_L_76 rfl rfl rfl rfl rfl (Nat.le_of_ble_eq_true rfl) 561 rfl dL_law_558 (fun r1 M1 L1 q1 => ?_)
  obtain ⟨Q2, h2, k2⟩ := k1 r1 M1 L1 q1
  refine tl_aload_2 C rfl 562 rfl dL_law_561 ?_
  refine tl_callI (ci := 9) C h2 mv_X10_least ml_L_79 rfl rfl rfl rfl rfl (Nat.le_of_ble_eq_true rfl) 565 rfl dL_law_562 (fun r2 M2 L2 q2 => ?_)
  obtain ⟨e1, hI2⟩ := k2 r2 M2 L2 q2
  exact tl_icmp_eq C 1173 e1 rfl dL_law_565 (kk M2 L2 hI2)
set_option maxRecDepth 100000 in
set_option maxHeartbeats 4000000 in
theorem ls_16 {k : Nat} (C : LX p s m meth c g b Ln xs) (hL : Ln ≤ 3072) (hk : 6 * k + 6 ≤ Ln) (hI : INV M L) (kk : ∀ M1 L1, INV M1 L1 → Tl p e s m below meth c g b 1173 (lcs g b k) [] M1 L1) : Tl p e s m below meth c g b 570 (lcs g b k) [] M L := by
  obtain ⟨Q1, h1, k1⟩ := pr_chow (g := g) hI (x := xs (6 * k + 1))
  refine tl_aload_1 C rfl 571 rfl dL_law_570 ?_
  refine tl_arg (j := 1) C hL hk (by decide) rfl 576 rfl dL_law_571 dL_law_572 dL_law_573 dL_law_574 dL_law_575 ?_
  refine tl_callI (ci := 8) C h1 mv_X9_chow ml_L_80 rfl rfl rfl rfl rfl (Nat.le_of_ble_eq_true rfl) 579 rfl dL_law_576 (fun r1 M1 L1 q1 => ?_)
  obtain ⟨Q2, h2, k2⟩ := k1 r1 M1 L1 q1
  refine tl_aload_2 C rfl 580 rfl dL_law_579 ?_
  refine tl_arg (j := 1) C hL hk (by decide) rfl 585 rfl dL_law_580 dL_law_581 dL_law_582 dL_law_583 dL_law_584 ?_
  refine tl_callI (ci := 9) C h2 mv_X10_chow ml_L_83 rfl rfl rfl rfl rfl (Nat.le_of_ble_eq_true rfl) 588 rfl dL_law_585 (fun r2 M2 L2 q2 => ?_)
  obtain ⟨e1, hI2⟩ := k2 r2 M2 L2 q2
  exact tl_icmp_eq C 1173 e1 rfl dL_law_588 (kk M2 L2 hI2)
set_option maxRecDepth 100000 in
set_option maxHeartbeats 4000000 in
theorem ls_17 {k : Nat} (C : LX p s m meth c g b Ln xs) (hL : Ln ≤ 3072) (hk : 6 * k + 6 ≤ Ln) (hI : INV M L) (kk : ∀ M1 L1, INV M1 L1 → Tl p e s m below meth c g b 1173 (lcs g b k) [] M1 L1) : Tl p e s m below meth c g b 593 (lcs g b k) [] M L := by
  obtain ⟨Q1, h1, k1⟩ := pr_trade (g := g) hI (x := xs (6 * k + 1))
  refine tl_aload_1 C rfl 594 rfl dL_law_593 ?_
  refine tl_arg (j := 1) C hL hk (by decide) rfl 599 rfl dL_law_594 dL_law_595 dL_law_596 dL_law_597 dL_law_598 ?_
  refine tl_callI (ci := 8) C h1 mv_X9_trade ml_L_84 rfl rfl rfl rfl rfl (Nat.le_of_ble_eq_true rfl) 602 rfl dL_law_599 (fun r1 M1 L1 q1 => ?_)
  obtain ⟨Q2, h2, k2⟩ := k1 r1 M1 L1 q1
  refine tl_aload_2 C rfl 603 rfl dL_law_602 ?_
  refine tl_arg (j := 1) C hL hk (by decide) rfl 608 rfl dL_law_603 dL_law_604 dL_law_605 dL_law_606 dL_law_607 ?_
  refine tl_callI (ci := 9) C h2 mv_X10_trade ml_L_87 rfl rfl rfl rfl rfl (Nat.le_of_ble_eq_true rfl) 611 rfl dL_law_608 (fun r2 M2 L2 q2 => ?_)
  obtain ⟨e1, hI2⟩ := k2 r2 M2 L2 q2
  exact tl_icmp_eq C 1173 e1 rfl dL_law_611 (kk M2 L2 hI2)
set_option maxRecDepth 100000 in
set_option maxHeartbeats 4000000 in
theorem ls_18 {k : Nat} (C : LX p s m meth c g b Ln xs) (hL : Ln ≤ 3072) (hk : 6 * k + 6 ≤ Ln) (hI : INV M L) (kk : ∀ M1 L1, INV M1 L1 → Tl p e s m below meth c g b 1173 (lcs g b k) [] M1 L1) : Tl p e s m below meth c g b 616 (lcs g b k) [] M L := by
  obtain ⟨Q1, h1, k1⟩ := pr_leastLot (g := g) hI (x := xs (6 * k + 1))
  refine tl_aload_1 C rfl 617 rfl dL_law_616 ?_
  refine tl_arg (j := 1) C hL hk (by decide) rfl 622 rfl dL_law_617 dL_law_618 dL_law_619 dL_law_620 dL_law_621 ?_
  refine tl_callI (ci := 8) C h1 mv_X9_leastLot ml_L_88 rfl rfl rfl rfl rfl (Nat.le_of_ble_eq_true rfl) 625 rfl dL_law_622 (fun r1 M1 L1 q1 => ?_)
  obtain ⟨Q2, h2, k2⟩ := k1 r1 M1 L1 q1
  refine tl_aload_2 C rfl 626 rfl dL_law_625 ?_
  refine tl_arg (j := 1) C hL hk (by decide) rfl 631 rfl dL_law_626 dL_law_627 dL_law_628 dL_law_629 dL_law_630 ?_
  refine tl_callI (ci := 9) C h2 mv_X10_leastLot ml_L_91 rfl rfl rfl rfl rfl (Nat.le_of_ble_eq_true rfl) 634 rfl dL_law_631 (fun r2 M2 L2 q2 => ?_)
  obtain ⟨e1, hI2⟩ := k2 r2 M2 L2 q2
  exact tl_icmp_eq C 1173 e1 rfl dL_law_634 (kk M2 L2 hI2)
set_option maxRecDepth 100000 in
set_option maxHeartbeats 4000000 in
theorem ls_19 {k : Nat} (C : LX p s m meth c g b Ln xs) (hL : Ln ≤ 3072) (hk : 6 * k + 6 ≤ Ln) (hI : INV M L) (kk : ∀ M1 L1, INV M1 L1 → Tl p e s m below meth c g b 1173 (lcs g b k) [] M1 L1) : Tl p e s m below meth c g b 639 (lcs g b k) [] M L := by
  obtain ⟨Q1, h1, k1⟩ := pr_swings (g := g) hI (x := xs (6 * k + 1))
  refine tl_aload_1 C rfl 640 rfl dL_law_639 ?_
  refine tl_arg (j := 1) C hL hk (by decide) rfl 645 rfl dL_law_640 dL_law_641 dL_law_642 dL_law_643 dL_law_644 ?_
  refine tl_callI (ci := 8) C h1 mv_X9_swings ml_L_92 rfl rfl rfl rfl rfl (Nat.le_of_ble_eq_true rfl) 648 rfl dL_law_645 (fun r1 M1 L1 q1 => ?_)
  obtain ⟨Q2, h2, k2⟩ := k1 r1 M1 L1 q1
  refine tl_aload_2 C rfl 649 rfl dL_law_648 ?_
  refine tl_arg (j := 1) C hL hk (by decide) rfl 654 rfl dL_law_649 dL_law_650 dL_law_651 dL_law_652 dL_law_653 ?_
  refine tl_callI (ci := 9) C h2 mv_X10_swings ml_L_95 rfl rfl rfl rfl rfl (Nat.le_of_ble_eq_true rfl) 657 rfl dL_law_654 (fun r2 M2 L2 q2 => ?_)
  obtain ⟨e1, hI2⟩ := k2 r2 M2 L2 q2
  exact tl_icmp_eq C 1173 e1 rfl dL_law_657 (kk M2 L2 hI2)
set_option maxRecDepth 100000 in
set_option maxHeartbeats 4000000 in
theorem ls_20 {k : Nat} (C : LX p s m meth c g b Ln xs) (hL : Ln ≤ 3072) (hk : 6 * k + 6 ≤ Ln) (hI : INV M L) (kk : ∀ M1 L1, INV M1 L1 → Tl p e s m below meth c g b 1173 (lcs g b k) [] M1 L1) : Tl p e s m below meth c g b 662 (lcs g b k) [] M L := by
  obtain ⟨Q1, h1, k1⟩ := pr_see (g := g) hI (x := xs (6 * k + 1)) (y := xs (6 * k + 2))
  refine tl_aload_1 C rfl 663 rfl dL_law_662 ?_
  refine tl_arg (j := 1) C hL hk (by decide) rfl 668 rfl dL_law_663 dL_law_664 dL_law_665 dL_law_666 dL_law_667 ?_
  refine tl_arg (j := 2) C hL hk (by decide) rfl 673 rfl dL_law_668 dL_law_669 dL_law_670 dL_law_671 dL_law_672 ?_
  refine tl_callI (ci := 8) C h1 mv_X9_see ml_L_96 rfl rfl rfl rfl rfl (Nat.le_of_ble_eq_true rfl) 676 rfl dL_law_673 (fun r1 M1 L1 q1 => ?_)
  obtain ⟨Q2, h2, k2⟩ := k1 r1 M1 L1 q1
  refine tl_aload_2 C rfl 677 rfl dL_law_676 ?_
  refine tl_arg (j := 1) C hL hk (by decide) rfl 682 rfl dL_law_677 dL_law_678 dL_law_679 dL_law_680 dL_law_681 ?_
  refine tl_arg (j := 2) C hL hk (by decide) rfl 687 rfl dL_law_682 dL_law_683 dL_law_684 dL_law_685 dL_law_686 ?_
  refine tl_callI (ci := 9) C h2 mv_X10_see ml_L_99 rfl rfl rfl rfl rfl (Nat.le_of_ble_eq_true rfl) 690 rfl dL_law_687 (fun r2 M2 L2 q2 => ?_)
  obtain ⟨e1, hI2⟩ := k2 r2 M2 L2 q2
  exact tl_icmp_eq C 1173 e1 rfl dL_law_690 (kk M2 L2 hI2)
set_option maxRecDepth 100000 in
set_option maxHeartbeats 4000000 in
theorem ls_21 {k : Nat} (C : LX p s m meth c g b Ln xs) (hL : Ln ≤ 3072) (hk : 6 * k + 6 ≤ Ln) (hI : INV M L) (kk : ∀ M1 L1, INV M1 L1 → Tl p e s m below meth c g b 1173 (lcs g b k) [] M1 L1) : Tl p e s m below meth c g b 695 (lcs g b k) [] M L := by
  obtain ⟨Q1, h1, k1⟩ := pr_fits (g := g) hI (x := xs (6 * k + 1))
  refine tl_aload_1 C rfl 696 rfl dL_law_695 ?_
  refine tl_arg (j := 1) C hL hk (by decide) rfl 701 rfl dL_law_696 dL_law_697 dL_law_698 dL_law_699 dL_law_700 ?_
  refine tl_callI (ci := 8) C h1 mv_X9_fits ml_L_100 rfl rfl rfl rfl rfl (Nat.le_of_ble_eq_true rfl) 704 rfl dL_law_701 (fun r1 M1 L1 q1 => ?_)
  obtain ⟨Q2, h2, k2⟩ := k1 r1 M1 L1 q1
  refine tl_aload_2 C rfl 705 rfl dL_law_704 ?_
  refine tl_arg (j := 1) C hL hk (by decide) rfl 710 rfl dL_law_705 dL_law_706 dL_law_707 dL_law_708 dL_law_709 ?_
  refine tl_callI (ci := 9) C h2 mv_X10_fits ml_L_103 rfl rfl rfl rfl rfl (Nat.le_of_ble_eq_true rfl) 713 rfl dL_law_710 (fun r2 M2 L2 q2 => ?_)
  obtain ⟨e1, hI2⟩ := k2 r2 M2 L2 q2
  exact tl_icmp_eq C 1173 e1 rfl dL_law_713 (kk M2 L2 hI2)
set_option maxRecDepth 100000 in
set_option maxHeartbeats 4000000 in
theorem ls_22 {k : Nat} (C : LX p s m meth c g b Ln xs) (hL : Ln ≤ 3072) (hk : 6 * k + 6 ≤ Ln) (hI : INV M L) (kk : ∀ M1 L1, INV M1 L1 → Tl p e s m below meth c g b 1173 (lcs g b k) [] M1 L1) : Tl p e s m below meth c g b 718 (lcs g b k) [] M L := by
  obtain ⟨Q1, h1, k1⟩ := pr_odds (g := g) hI (x := xs (6 * k + 1)) (y := xs (6 * k + 2))
  refine tl_aload_1 C rfl 719 rfl dL_law_718 ?_
  refine tl_arg (j := 1) C hL hk (by decide) rfl 724 rfl dL_law_719 dL_law_720 dL_law_721 dL_law_722 dL_law_723 ?_
  refine tl_arg (j := 2) C hL hk (by decide) rfl 729 rfl dL_law_724 dL_law_725 dL_law_726 dL_law_727 dL_law_728 ?_
  refine tl_callL (ci := 8) C h1 mv_X9_odds ml_L_104 rfl rfl rfl rfl rfl (Nat.le_of_ble_eq_true rfl) 732 rfl dL_law_729 (fun r1 M1 L1 q1 => ?_)
  obtain ⟨Q2, h2, k2⟩ := k1 r1 M1 L1 q1
  refine tl_aload_2 C rfl 733 rfl dL_law_732 ?_
  refine tl_arg (j := 1) C hL hk (by decide) rfl 738 rfl dL_law_733 dL_law_734 dL_law_735 dL_law_736 dL_law_737 ?_
  refine tl_arg (j := 2) C hL hk (by decide) rfl 743 rfl dL_law_738 dL_law_739 dL_law_740 dL_law_741 dL_law_742 ?_
  refine tl_callL (ci := 9) C h2 mv_X10_odds ml_L_108 rfl rfl rfl rfl rfl (Nat.le_of_ble_eq_true rfl) 746 rfl dL_law_743 (fun r2 M2 L2 q2 => ?_)
  obtain ⟨e1, hI2⟩ := k2 r2 M2 L2 q2
  refine tl_lcmp C 747 rfl dL_law_746 ?_
  exact tl_if_eq C 1173 ((lgc_eq _ _).mpr e1) rfl dL_law_747 (kk M2 L2 hI2)
set_option maxRecDepth 100000 in
set_option maxHeartbeats 4000000 in
theorem ls_23 {k : Nat} (C : LX p s m meth c g b Ln xs) (hL : Ln ≤ 3072) (hk : 6 * k + 6 ≤ Ln) (hI : INV M L) (kk : ∀ M1 L1, INV M1 L1 → Tl p e s m below meth c g b 1173 (lcs g b k) [] M1 L1) : Tl p e s m below meth c g b 752 (lcs g b k) [] M L := by
  obtain ⟨Q1, h1, k1⟩ := pr_mean (g := g) hI (x := xs (6 * k + 1))
  refine tl_aload_1 C rfl 753 rfl dL_law_752 ?_
  refine tl_arg (j := 1) C hL hk (by decide) rfl 758 rfl dL_law_753 dL_law_754 dL_law_755 dL_law_756 dL_law_757 ?_
  refine tl_callL (ci := 8) C h1 mv_X9_mean ml_L_109 rfl rfl rfl rfl rfl (Nat.le_of_ble_eq_true rfl) 761 rfl dL_law_758 (fun r1 M1 L1 q1 => ?_)
  obtain ⟨Q2, h2, k2⟩ := k1 r1 M1 L1 q1
  refine tl_aload_2 C rfl 762 rfl dL_law_761 ?_
  refine tl_arg (j := 1) C hL hk (by decide) rfl 767 rfl dL_law_762 dL_law_763 dL_law_764 dL_law_765 dL_law_766 ?_
  refine tl_callL (ci := 9) C h2 mv_X10_mean ml_L_113 rfl rfl rfl rfl rfl (Nat.le_of_ble_eq_true rfl) 770 rfl dL_law_767 (fun r2 M2 L2 q2 => ?_)
  obtain ⟨e1, hI2⟩ := k2 r2 M2 L2 q2
  refine tl_lcmp C 771 rfl dL_law_770 ?_
  exact tl_if_eq C 1173 ((lgc_eq _ _).mpr e1) rfl dL_law_771 (kk M2 L2 hI2)
set_option maxRecDepth 100000 in
set_option maxHeartbeats 4000000 in
theorem ls_24 {k : Nat} (C : LX p s m meth c g b Ln xs) (hL : Ln ≤ 3072) (hk : 6 * k + 6 ≤ Ln) (hI : INV M L) (kk : ∀ M1 L1, INV M1 L1 → Tl p e s m below meth c g b 1173 (lcs g b k) [] M1 L1) : Tl p e s m below meth c g b 776 (lcs g b k) [] M L := by
  obtain ⟨Q1, h1, k1⟩ := pr_event (g := g) hI (x := xs (6 * k + 1)) (y := xs (6 * k + 2))
  refine tl_aload_1 C rfl 777 rfl dL_law_776 ?_
  refine tl_arg (j := 1) C hL hk (by decide) rfl 782 rfl dL_law_777 dL_law_778 dL_law_779 dL_law_780 dL_law_781 ?_
  refine tl_arg (j := 2) C hL hk (by decide) rfl 787 rfl dL_law_782 dL_law_783 dL_law_784 dL_law_785 dL_law_786 ?_
  refine tl_callI (ci := 8) C h1 mv_X9_event ml_L_114 rfl rfl rfl rfl rfl (Nat.le_of_ble_eq_true rfl) 790 rfl dL_law_787 (fun r1 M1 L1 q1 => ?_)
  obtain ⟨Q2, h2, k2⟩ := k1 r1 M1 L1 q1
  refine tl_aload_2 C rfl 791 rfl dL_law_790 ?_
  refine tl_arg (j := 1) C hL hk (by decide) rfl 796 rfl dL_law_791 dL_law_792 dL_law_793 dL_law_794 dL_law_795 ?_
  refine tl_arg (j := 2) C hL hk (by decide) rfl 801 rfl dL_law_796 dL_law_797 dL_law_798 dL_law_799 dL_law_800 ?_
  refine tl_callI (ci := 9) C h2 mv_X10_event ml_L_117 rfl rfl rfl rfl rfl (Nat.le_of_ble_eq_true rfl) 804 rfl dL_law_801 (fun r2 M2 L2 q2 => ?_)
  obtain ⟨e1, hI2⟩ := k2 r2 M2 L2 q2
  exact tl_icmp_eq C 1173 e1 rfl dL_law_804 (kk M2 L2 hI2)
set_option maxRecDepth 100000 in
set_option maxHeartbeats 4000000 in
theorem ls_25 {k : Nat} (C : LX p s m meth c g b Ln xs) (hL : Ln ≤ 3072) (hk : 6 * k + 6 ≤ Ln) (hI : INV M L) (kk : ∀ M1 L1, INV M1 L1 → Tl p e s m below meth c g b 1173 (lcs g b k) [] M1 L1) : Tl p e s m below meth c g b 809 (lcs g b k) [] M L := by
  obtain ⟨Q1, h1, k1⟩ := pr_after (g := g) hI (x := xs (6 * k + 1))
  refine tl_aload_1 C rfl 810 rfl dL_law_809 ?_
  refine tl_arg (j := 1) C hL hk (by decide) rfl 815 rfl dL_law_810 dL_law_811 dL_law_812 dL_law_813 dL_law_814 ?_
  refine tl_callI (ci := 8) C h1 mv_X9_after ml_L_118 rfl rfl rfl rfl rfl (Nat.le_of_ble_eq_true rfl) 818 rfl dL_law_815 (fun r1 M1 L1 q1 => ?_)
  obtain ⟨Q2, h2, k2⟩ := k1 r1 M1 L1 q1
  refine tl_aload_2 C rfl 819 rfl dL_law_818 ?_
  refine tl_arg (j := 1) C hL hk (by decide) rfl 824 rfl dL_law_819 dL_law_820 dL_law_821 dL_law_822 dL_law_823 ?_
  refine tl_callI (ci := 9) C h2 mv_X10_after ml_L_121 rfl rfl rfl rfl rfl (Nat.le_of_ble_eq_true rfl) 827 rfl dL_law_824 (fun r2 M2 L2 q2 => ?_)
  obtain ⟨e1, hI2⟩ := k2 r2 M2 L2 q2
  exact tl_icmp_eq C 1173 e1 rfl dL_law_827 (kk M2 L2 hI2)
set_option maxRecDepth 100000 in
set_option maxHeartbeats 4000000 in
theorem ls_26 {k : Nat} (C : LX p s m meth c g b Ln xs) (hL : Ln ≤ 3072) (hk : 6 * k + 6 ≤ Ln) (hI : INV M L) (kk : ∀ M1 L1, INV M1 L1 → Tl p e s m below meth c g b 1173 (lcs g b k) [] M1 L1) : Tl p e s m below meth c g b 832 (lcs g b k) [] M L := by
  obtain ⟨Q1, h1, k1⟩ := pr_book (g := g) hI (x := xs (6 * k + 1)) (y := xs (6 * k + 2))
  refine tl_aload_1 C rfl 833 rfl dL_law_832 ?_
  refine tl_arg (j := 1) C hL hk (by decide) rfl 838 rfl dL_law_833 dL_law_834 dL_law_835 dL_law_836 dL_law_837 ?_
  refine tl_arg (j := 2) C hL hk (by decide) rfl 843 rfl dL_law_838 dL_law_839 dL_law_840 dL_law_841 dL_law_842 ?_
  refine tl_callI (ci := 8) C h1 mv_X9_book ml_L_122 rfl rfl rfl rfl rfl (Nat.le_of_ble_eq_true rfl) 846 rfl dL_law_843 (fun r1 M1 L1 q1 => ?_)
  obtain ⟨Q2, h2, k2⟩ := k1 r1 M1 L1 q1
  refine tl_aload_2 C rfl 847 rfl dL_law_846 ?_
  refine tl_arg (j := 1) C hL hk (by decide) rfl 852 rfl dL_law_847 dL_law_848 dL_law_849 dL_law_850 dL_law_851 ?_
  refine tl_arg (j := 2) C hL hk (by decide) rfl 857 rfl dL_law_852 dL_law_853 dL_law_854 dL_law_855 dL_law_856 ?_
  refine tl_callI (ci := 9) C h2 mv_X10_book ml_L_125 rfl rfl rfl rfl rfl (Nat.le_of_ble_eq_true rfl) 860 rfl dL_law_857 (fun r2 M2 L2 q2 => ?_)
  obtain ⟨e1, hI2⟩ := k2 r2 M2 L2 q2
  exact tl_icmp_eq C 1173 e1 rfl dL_law_860 (kk M2 L2 hI2)
set_option maxRecDepth 100000 in
set_option maxHeartbeats 4000000 in
theorem ls_27 {k : Nat} (C : LX p s m meth c g b Ln xs) (hL : Ln ≤ 3072) (hk : 6 * k + 6 ≤ Ln) (hI : INV M L) (kk : ∀ M1 L1, INV M1 L1 → Tl p e s m below meth c g b 1173 (lcs g b k) [] M1 L1) : Tl p e s m below meth c g b 865 (lcs g b k) [] M L := by
  obtain ⟨Q1, h1, k1⟩ := pr_looked (g := g) hI 
  refine tl_aload_1 C rfl 866 rfl dL_law_865 ?_
  refine tl_callI (ci := 8) C h1 mv_X9_looked ml_L_126 rfl rfl rfl rfl rfl (Nat.le_of_ble_eq_true rfl) 869 rfl dL_law_866 (fun r1 M1 L1 q1 => ?_)
  obtain ⟨Q2, h2, k2⟩ := k1 r1 M1 L1 q1
  refine tl_aload_2 C rfl 870 rfl dL_law_869 ?_
  refine tl_callI (ci := 9) C h2 mv_X10_looked ml_L_129 rfl rfl rfl rfl rfl (Nat.le_of_ble_eq_true rfl) 873 rfl dL_law_870 (fun r2 M2 L2 q2 => ?_)
  obtain ⟨e1, hI2⟩ := k2 r2 M2 L2 q2
  exact tl_icmp_eq C 1173 e1 rfl dL_law_873 (kk M2 L2 hI2)
set_option maxRecDepth 100000 in
set_option maxHeartbeats 4000000 in
theorem ls_28 {k : Nat} (C : LX p s m meth c g b Ln xs) (hL : Ln ≤ 3072) (hk : 6 * k + 6 ≤ Ln) (hI : INV M L) (kk : ∀ M1 L1, INV M1 L1 → Tl p e s m below meth c g b 1173 (lcs g b k) [] M1 L1) : Tl p e s m below meth c g b 878 (lcs g b k) [] M L := by
  obtain ⟨Q1, h1, k1⟩ := pr_judge (g := g) hI (x := xs (6 * k + 1)) (y := xs (6 * k + 2))
  refine tl_aload_1 C rfl 879 rfl dL_law_878 ?_
  refine tl_arg (j := 1) C hL hk (by decide) rfl 884 rfl dL_law_879 dL_law_880 dL_law_881 dL_law_882 dL_law_883 ?_
  refine tl_arg (j := 2) C hL hk (by decide) rfl 889 rfl dL_law_884 dL_law_885 dL_law_886 dL_law_887 dL_law_888 ?_
  refine tl_callI (ci := 8) C h1 mv_X9_judge ml_L_130 rfl rfl rfl rfl rfl (Nat.le_of_ble_eq_true rfl) 892 rfl dL_law_889 (fun r1 M1 L1 q1 => ?_)
  obtain ⟨Q2, h2, k2⟩ := k1 r1 M1 L1 q1
  refine tl_aload_2 C rfl 893 rfl dL_law_892 ?_
  refine tl_arg (j := 1) C hL hk (by decide) rfl 898 rfl dL_law_893 dL_law_894 dL_law_895 dL_law_896 dL_law_897 ?_
  refine tl_arg (j := 2) C hL hk (by decide) rfl 903 rfl dL_law_898 dL_law_899 dL_law_900 dL_law_901 dL_law_902 ?_
  refine tl_callI (ci := 9) C h2 mv_X10_judge ml_L_133 rfl rfl rfl rfl rfl (Nat.le_of_ble_eq_true rfl) 906 rfl dL_law_903 (fun r2 M2 L2 q2 => ?_)
  obtain ⟨e1, hI2⟩ := k2 r2 M2 L2 q2
  exact tl_icmp_eq C 1173 e1 rfl dL_law_906 (kk M2 L2 hI2)
set_option maxRecDepth 100000 in
set_option maxHeartbeats 4000000 in
theorem ls_29 {k : Nat} (C : LX p s m meth c g b Ln xs) (hL : Ln ≤ 3072) (hk : 6 * k + 6 ≤ Ln) (hI : INV M L) (kk : ∀ M1 L1, INV M1 L1 → Tl p e s m below meth c g b 1173 (lcs g b k) [] M1 L1) : Tl p e s m below meth c g b 911 (lcs g b k) [] M L := by
  obtain ⟨Q1, h1, k1⟩ := pr_image (g := g) hI 
  refine tl_aload_1 C rfl 912 rfl dL_law_911 ?_
  refine tl_callI (ci := 8) C h1 mv_X9_image ml_L_134 rfl rfl rfl rfl rfl (Nat.le_of_ble_eq_true rfl) 915 rfl dL_law_912 (fun r1 M1 L1 q1 => ?_)
  obtain ⟨Q2, h2, k2⟩ := k1 r1 M1 L1 q1
  refine tl_aload_2 C rfl 916 rfl dL_law_915 ?_
  refine tl_callI (ci := 9) C h2 mv_X10_image ml_L_137 rfl rfl rfl rfl rfl (Nat.le_of_ble_eq_true rfl) 919 rfl dL_law_916 (fun r2 M2 L2 q2 => ?_)
  obtain ⟨e1, hI2⟩ := k2 r2 M2 L2 q2
  exact tl_icmp_eq C 1173 e1 rfl dL_law_919 (kk M2 L2 hI2)
set_option maxRecDepth 100000 in
set_option maxHeartbeats 4000000 in
theorem ls_30 {k : Nat} (C : LX p s m meth c g b Ln xs) (hL : Ln ≤ 3072) (hk : 6 * k + 6 ≤ Ln) (hI : INV M L) (kk : ∀ M1 L1, INV M1 L1 → Tl p e s m below meth c g b 1173 (lcs g b k) [] M1 L1) : Tl p e s m below meth c g b 924 (lcs g b k) [] M L := by
  obtain ⟨Q1, h1, k1⟩ := pr_undo (g := g) hI 
  refine tl_aload_1 C rfl 925 rfl dL_law_924 ?_
  refine tl_callI (ci := 8) C h1 mv_X9_undo ml_L_138 rfl rfl rfl rfl rfl (Nat.le_of_ble_eq_true rfl) 928 rfl dL_law_925 (fun r1 M1 L1 q1 => ?_)
  obtain ⟨Q2, h2, k2⟩ := k1 r1 M1 L1 q1
  refine tl_aload_2 C rfl 929 rfl dL_law_928 ?_
  refine tl_callI (ci := 9) C h2 mv_X10_undo ml_L_141 rfl rfl rfl rfl rfl (Nat.le_of_ble_eq_true rfl) 932 rfl dL_law_929 (fun r2 M2 L2 q2 => ?_)
  obtain ⟨e1, hI2⟩ := k2 r2 M2 L2 q2
  exact tl_icmp_eq C 1173 e1 rfl dL_law_932 (kk M2 L2 hI2)
set_option maxRecDepth 100000 in
set_option maxHeartbeats 4000000 in
theorem ls_31 {k : Nat} (C : LX p s m meth c g b Ln xs) (hL : Ln ≤ 3072) (hk : 6 * k + 6 ≤ Ln) (hI : INV M L) (kk : ∀ M1 L1, INV M1 L1 → Tl p e s m below meth c g b 1173 (lcs g b k) [] M1 L1) : Tl p e s m below meth c g b 937 (lcs g b k) [] M L := by
  obtain ⟨Q1, h1, k1⟩ := pr_count (g := g) hI (x := xs (6 * k + 1))
  refine tl_aload_1 C rfl 938 rfl dL_law_937 ?_
  refine tl_arg (j := 1) C hL hk (by decide) rfl 943 rfl dL_law_938 dL_law_939 dL_law_940 dL_law_941 dL_law_942 ?_
  refine tl_callI (ci := 8) C h1 mv_X9_count ml_L_142 rfl rfl rfl rfl rfl (Nat.le_of_ble_eq_true rfl) 946 rfl dL_law_943 (fun r1 M1 L1 q1 => ?_)
  obtain ⟨Q2, h2, k2⟩ := k1 r1 M1 L1 q1
  refine tl_aload_2 C rfl 947 rfl dL_law_946 ?_
  refine tl_arg (j := 1) C hL hk (by decide) rfl 952 rfl dL_law_947 dL_law_948 dL_law_949 dL_law_950 dL_law_951 ?_
  refine tl_callI (ci := 9) C h2 mv_X10_count ml_L_145 rfl rfl rfl rfl rfl (Nat.le_of_ble_eq_true rfl) 955 rfl dL_law_952 (fun r2 M2 L2 q2 => ?_)
  obtain ⟨e1, hI2⟩ := k2 r2 M2 L2 q2
  exact tl_icmp_eq C 1173 e1 rfl dL_law_955 (kk M2 L2 hI2)
set_option maxRecDepth 100000 in
set_option maxHeartbeats 4000000 in
theorem ls_32 {k : Nat} (C : LX p s m meth c g b Ln xs) (hL : Ln ≤ 3072) (hk : 6 * k + 6 ≤ Ln) (hI : INV M L) (kk : ∀ M1 L1, INV M1 L1 → Tl p e s m below meth c g b 1173 (lcs g b k) [] M1 L1) : Tl p e s m below meth c g b 960 (lcs g b k) [] M L := by
  obtain ⟨Q1, h1, k1⟩ := pr_tape (g := g) hI (x := xs (6 * k + 1)) (y := xs (6 * k + 2)) (z := xs (6 * k + 3))
  refine tl_aload_1 C rfl 961 rfl dL_law_960 ?_
  refine tl_arg (j := 1) C hL hk (by decide) rfl 966 rfl dL_law_961 dL_law_962 dL_law_963 dL_law_964 dL_law_965 ?_
  refine tl_arg (j := 2) C hL hk (by decide) rfl 971 rfl dL_law_966 dL_law_967 dL_law_968 dL_law_969 dL_law_970 ?_
  refine tl_arg (j := 3) C hL hk (by decide) rfl 976 rfl dL_law_971 dL_law_972 dL_law_973 dL_law_974 dL_law_975 ?_
  refine tl_callI (ci := 8) C h1 mv_X9_tape ml_L_146 rfl rfl rfl rfl rfl (Nat.le_of_ble_eq_true rfl) 979 rfl dL_law_976 (fun r1 M1 L1 q1 => ?_)
  obtain ⟨Q2, h2, k2⟩ := k1 r1 M1 L1 q1
  refine tl_aload_2 C rfl 980 rfl dL_law_979 ?_
  refine tl_arg (j := 1) C hL hk (by decide) rfl 985 rfl dL_law_980 dL_law_981 dL_law_982 dL_law_983 dL_law_984 ?_
  refine tl_arg (j := 2) C hL hk (by decide) rfl 990 rfl dL_law_985 dL_law_986 dL_law_987 dL_law_988 dL_law_989 ?_
  refine tl_arg (j := 3) C hL hk (by decide) rfl 995 rfl dL_law_990 dL_law_991 dL_law_992 dL_law_993 dL_law_994 ?_
  refine tl_callI (ci := 9) C h2 mv_X10_tape ml_L_150 rfl rfl rfl rfl rfl (Nat.le_of_ble_eq_true rfl) 998 rfl dL_law_995 (fun r2 M2 L2 q2 => ?_)
  obtain ⟨e1, hI2⟩ := k2 r2 M2 L2 q2
  exact tl_icmp_eq C 1173 e1 rfl dL_law_998 (kk M2 L2 hI2)
set_option maxRecDepth 100000 in
set_option maxHeartbeats 4000000 in
theorem ls_33 {k : Nat} (C : LX p s m meth c g b Ln xs) (hL : Ln ≤ 3072) (hk : 6 * k + 6 ≤ Ln) (hI : INV M L) (kk : ∀ M1 L1, INV M1 L1 → Tl p e s m below meth c g b 1173 (lcs g b k) [] M1 L1) : Tl p e s m below meth c g b 1003 (lcs g b k) [] M L := by
  obtain ⟨Q1, h1, k1⟩ := pr_item (g := g) hI (x := xs (6 * k + 1)) (y := xs (6 * k + 2)) (v := ((xs (6 * k + 3)).toInt64 <<< ((32 : Int32).toInt64 &&& 63)) ||| ((xs (6 * k + 4)).toInt64 &&& 4294967295))
  refine tl_aload_1 C rfl 1004 rfl dL_law_1003 ?_
  refine tl_arg (j := 1) C hL hk (by decide) rfl 1009 rfl dL_law_1004 dL_law_1005 dL_law_1006 dL_law_1007 dL_law_1008 ?_
  refine tl_arg (j := 2) C hL hk (by decide) rfl 1014 rfl dL_law_1009 dL_law_1010 dL_law_1011 dL_law_1012 dL_law_1013 ?_
  refine tl_arg (j := 3) C hL hk (by decide) rfl 1019 rfl dL_law_1014 dL_law_1015 dL_law_1016 dL_law_1017 dL_law_1018 ?_
  refine tl_i2l C 1020 rfl dL_law_1019 ?_
  refine tl_bipush (32) C (by decide) 1022 rfl dL_law_1020 ?_
  refine tl_lshl C 1023 rfl dL_law_1022 ?_
  refine tl_arg (j := 4) C hL hk (by decide) rfl 1028 rfl dL_law_1023 dL_law_1024 dL_law_1025 dL_law_1026 dL_law_1027 ?_
  refine tl_i2l C 1029 rfl dL_law_1028 ?_
  refine tl_ldc2 C kl_L_151 1032 rfl dL_law_1029 ?_
  refine tl_land C 1033 rfl dL_law_1032 ?_
  refine tl_lor C 1034 rfl dL_law_1033 ?_
  refine tl_callI (ci := 8) C h1 mv_X9_item ml_L_153 rfl rfl rfl rfl rfl (Nat.le_of_ble_eq_true rfl) 1037 rfl dL_law_1034 (fun r1 M1 L1 q1 => ?_)
  obtain ⟨Q2, h2, k2⟩ := k1 r1 M1 L1 q1
  refine tl_aload_2 C rfl 1038 rfl dL_law_1037 ?_
  refine tl_arg (j := 1) C hL hk (by decide) rfl 1043 rfl dL_law_1038 dL_law_1039 dL_law_1040 dL_law_1041 dL_law_1042 ?_
  refine tl_arg (j := 2) C hL hk (by decide) rfl 1048 rfl dL_law_1043 dL_law_1044 dL_law_1045 dL_law_1046 dL_law_1047 ?_
  refine tl_arg (j := 3) C hL hk (by decide) rfl 1053 rfl dL_law_1048 dL_law_1049 dL_law_1050 dL_law_1051 dL_law_1052 ?_
  refine tl_i2l C 1054 rfl dL_law_1053 ?_
  refine tl_bipush (32) C (by decide) 1056 rfl dL_law_1054 ?_
  refine tl_lshl C 1057 rfl dL_law_1056 ?_
  refine tl_arg (j := 4) C hL hk (by decide) rfl 1062 rfl dL_law_1057 dL_law_1058 dL_law_1059 dL_law_1060 dL_law_1061 ?_
  refine tl_i2l C 1063 rfl dL_law_1062 ?_
  refine tl_ldc2 C kl_L_151 1066 rfl dL_law_1063 ?_
  refine tl_land C 1067 rfl dL_law_1066 ?_
  refine tl_lor C 1068 rfl dL_law_1067 ?_
  refine tl_callI (ci := 9) C h2 mv_X10_item ml_L_157 rfl rfl rfl rfl rfl (Nat.le_of_ble_eq_true rfl) 1071 rfl dL_law_1068 (fun r2 M2 L2 q2 => ?_)
  obtain ⟨e1, hI2⟩ := k2 r2 M2 L2 q2
  exact tl_icmp_eq C 1173 e1 rfl dL_law_1071 (kk M2 L2 hI2)
set_option maxRecDepth 100000 in
set_option maxHeartbeats 4000000 in
theorem ls_34 {k : Nat} (C : LX p s m meth c g b Ln xs) (hL : Ln ≤ 3072) (hk : 6 * k + 6 ≤ Ln) (hI : INV M L) (kk : ∀ M1 L1, INV M1 L1 → Tl p e s m below meth c g b 1173 (lcs g b k) [] M1 L1) : Tl p e s m below meth c g b 1076 (lcs g b k) [] M L := by
  obtain ⟨Q1, h1, k1⟩ := pr_peek (g := g) hI (x := xs (6 * k + 1)) (y := xs (6 * k + 2))
  refine tl_aload_1 C rfl 1077 rfl dL_law_1076 ?_
  refine tl_arg (j := 1) C hL hk (by decide) rfl 1082 rfl dL_law_1077 dL_law_1078 dL_law_1079 dL_law_1080 dL_law_1081 ?_
  refine tl_arg (j := 2) C hL hk (by decide) rfl 1087 rfl dL_law_1082 dL_law_1083 dL_law_1084 dL_law_1085 dL_law_1086 ?_
  refine tl_callL (ci := 8) C h1 mv_X9_peek ml_L_158 rfl rfl rfl rfl rfl (Nat.le_of_ble_eq_true rfl) 1090 rfl dL_law_1087 (fun r1 M1 L1 q1 => ?_)
  obtain ⟨Q2, h2, k2⟩ := k1 r1 M1 L1 q1
  refine tl_aload_2 C rfl 1091 rfl dL_law_1090 ?_
  refine tl_arg (j := 1) C hL hk (by decide) rfl 1096 rfl dL_law_1091 dL_law_1092 dL_law_1093 dL_law_1094 dL_law_1095 ?_
  refine tl_arg (j := 2) C hL hk (by decide) rfl 1101 rfl dL_law_1096 dL_law_1097 dL_law_1098 dL_law_1099 dL_law_1100 ?_
  refine tl_callL (ci := 9) C h2 mv_X10_peek ml_L_161 rfl rfl rfl rfl rfl (Nat.le_of_ble_eq_true rfl) 1104 rfl dL_law_1101 (fun r2 M2 L2 q2 => ?_)
  obtain ⟨e1, hI2⟩ := k2 r2 M2 L2 q2
  refine tl_lcmp C 1105 rfl dL_law_1104 ?_
  exact tl_if_eq C 1173 ((lgc_eq _ _).mpr e1) rfl dL_law_1105 (kk M2 L2 hI2)
set_option maxRecDepth 100000 in
set_option maxHeartbeats 4000000 in
theorem ls_35 {k : Nat} (C : LX p s m meth c g b Ln xs) (hL : Ln ≤ 3072) (hk : 6 * k + 6 ≤ Ln) (hI : INV M L) (kk : ∀ M1 L1, INV M1 L1 → Tl p e s m below meth c g b 1173 (lcs g b k) [] M1 L1) : Tl p e s m below meth c g b 1110 (lcs g b k) [] M L := by
  obtain ⟨Q1, h1, k1⟩ := pr_shift (g := g) hI (x := xs (6 * k + 1)) (i := xs (6 * k + 2)) (y := xs (6 * k + 3)) (j := xs (6 * k + 4)) (n := xs (6 * k + 5))
  refine tl_aload_1 C rfl 1111 rfl dL_law_1110 ?_
  refine tl_arg (j := 1) C hL hk (by decide) rfl 1116 rfl dL_law_1111 dL_law_1112 dL_law_1113 dL_law_1114 dL_law_1115 ?_
  refine tl_arg (j := 2) C hL hk (by decide) rfl 1121 rfl dL_law_1116 dL_law_1117 dL_law_1118 dL_law_1119 dL_law_1120 ?_
  refine tl_arg (j := 3) C hL hk (by decide) rfl 1126 rfl dL_law_1121 dL_law_1122 dL_law_1123 dL_law_1124 dL_law_1125 ?_
  refine tl_arg (j := 4) C hL hk (by decide) rfl 1131 rfl dL_law_1126 dL_law_1127 dL_law_1128 dL_law_1129 dL_law_1130 ?_
  refine tl_arg (j := 5) C hL hk (by decide) rfl 1136 rfl dL_law_1131 dL_law_1132 dL_law_1133 dL_law_1134 dL_law_1135 ?_
  refine tl_callI (ci := 8) C h1 mv_X9_shift ml_L_162 rfl rfl rfl rfl rfl (Nat.le_of_ble_eq_true rfl) 1139 rfl dL_law_1136 (fun r1 M1 L1 q1 => ?_)
  obtain ⟨Q2, h2, k2⟩ := k1 r1 M1 L1 q1
  refine tl_aload_2 C rfl 1140 rfl dL_law_1139 ?_
  refine tl_arg (j := 1) C hL hk (by decide) rfl 1145 rfl dL_law_1140 dL_law_1141 dL_law_1142 dL_law_1143 dL_law_1144 ?_
  refine tl_arg (j := 2) C hL hk (by decide) rfl 1150 rfl dL_law_1145 dL_law_1146 dL_law_1147 dL_law_1148 dL_law_1149 ?_
  refine tl_arg (j := 3) C hL hk (by decide) rfl 1155 rfl dL_law_1150 dL_law_1151 dL_law_1152 dL_law_1153 dL_law_1154 ?_
  refine tl_arg (j := 4) C hL hk (by decide) rfl 1160 rfl dL_law_1155 dL_law_1156 dL_law_1157 dL_law_1158 dL_law_1159 ?_
  refine tl_arg (j := 5) C hL hk (by decide) rfl 1165 rfl dL_law_1160 dL_law_1161 dL_law_1162 dL_law_1163 dL_law_1164 ?_
  refine tl_callI (ci := 9) C h2 mv_X10_shift ml_L_166 rfl rfl rfl rfl rfl (Nat.le_of_ble_eq_true rfl) 1168 rfl dL_law_1165 (fun r2 M2 L2 q2 => ?_)
  obtain ⟨e1, hI2⟩ := k2 r2 M2 L2 q2
  exact tl_icmp_eq C 1173 e1 rfl dL_law_1168 (kk M2 L2 hI2)
set_option maxRecDepth 100000 in
set_option maxHeartbeats 4000000 in
theorem law_step {k : Nat} (C : LX p s m meth c g b Ln xs) (hL : Ln ≤ 3072) (hk : 6 * k + 6 ≤ Ln) (hI : INV M L) (kk : ∀ M1 L1, INV M1 L1 → Tl p e s m below meth c g b 18 (lcs g b (k + 1)) [] M1 L1) : Tl p e s m below meth c g b 27 (lcs g b k) [] M L := by
  have k2 : ∀ M1 L1, INV M1 L1 → Tl p e s m below meth c g b 1173 (lcs g b k) [] M1 L1 := fun M1 L1 h => by
    refine tl_iinc_3 C (nI (6 * (k + 1))) ?_ rfl 1176 rfl dL_law_1173 ?_
    · rw [show Int32.ofInt 6 = nI 6 from rfl, nI_add]
      rfl
    · exact tl_goto C 18 rfl dL_law_1176 (kk M1 L1 h)
  refine tl_aload_0 C rfl 28 rfl dL_law_27 ?_
  refine tl_iload_3 C rfl 29 rfl dL_law_28 ?_
  refine tl_sld C (ix_nI (k := 6 * k) (by omega) (by omega)) 30 rfl dL_law_29 ?_
  refine tl_bipush 63 C (by decide) 32 rfl dL_law_30 ?_
  refine tl_iand C 33 rfl dL_law_32 ?_
  generalize xs (6 * k) &&& 63 = x
  by_cases h : inN x 36 = true
  · obtain ⟨q, hq, rfl⟩ := inN_of h
    rcases (show q = 0 ∨ q = 1 ∨ q = 2 ∨ q = 3 ∨ q = 4 ∨ q = 5 ∨ q = 6 ∨ q = 7 ∨ q = 8 ∨ q = 9 ∨ q = 10 ∨ q = 11 ∨ q = 12 ∨ q = 13 ∨ q = 14 ∨ q = 15 ∨ q = 16 ∨ q = 17 ∨ q = 18 ∨ q = 19 ∨ q = 20 ∨ q = 21 ∨ q = 22 ∨ q = 23 ∨ q = 24 ∨ q = 25 ∨ q = 26 ∨ q = 27 ∨ q = 28 ∨ q = 29 ∨ q = 30 ∨ q = 31 ∨ q = 32 ∨ q = 33 ∨ q = 34 ∨ q = 35 by omega) with rfl | rfl | rfl | rfl | rfl | rfl | rfl | rfl | rfl | rfl | rfl | rfl | rfl | rfl | rfl | rfl | rfl | rfl | rfl | rfl | rfl | rfl | rfl | rfl | rfl | rfl | rfl | rfl | rfl | rfl | rfl | rfl | rfl | rfl | rfl | rfl
    · exact tl_swIn (off := 159) C 192 (by decide) (by decide) (by decide +kernel) rfl dL_law_33 (ls_0 C hL hk hI k2)
    · exact tl_swIn (off := 182) C 215 (by decide) (by decide) (by decide +kernel) rfl dL_law_33 (ls_1 C hL hk hI k2)
    · exact tl_swIn (off := 215) C 248 (by decide) (by decide) (by decide +kernel) rfl dL_law_33 (ls_2 C hL hk hI k2)
    · exact tl_swIn (off := 238) C 271 (by decide) (by decide) (by decide +kernel) rfl dL_law_33 (ls_3 C hL hk hI k2)
    · exact tl_swIn (off := 271) C 304 (by decide) (by decide) (by decide +kernel) rfl dL_law_33 (ls_4 C hL hk hI k2)
    · exact tl_swIn (off := 294) C 327 (by decide) (by decide) (by decide +kernel) rfl dL_law_33 (ls_5 C hL hk hI k2)
    · exact tl_swIn (off := 307) C 340 (by decide) (by decide) (by decide +kernel) rfl dL_law_33 (ls_6 C hL hk hI k2)
    · exact tl_swIn (off := 330) C 363 (by decide) (by decide) (by decide +kernel) rfl dL_law_33 (ls_7 C hL hk hI k2)
    · exact tl_swIn (off := 353) C 386 (by decide) (by decide) (by decide +kernel) rfl dL_law_33 (ls_8 C hL hk hI k2)
    · exact tl_swIn (off := 386) C 419 (by decide) (by decide) (by decide +kernel) rfl dL_law_33 (ls_9 C hL hk hI k2)
    · exact tl_swIn (off := 399) C 432 (by decide) (by decide) (by decide +kernel) rfl dL_law_33 (ls_10 C hL hk hI k2)
    · exact tl_swIn (off := 422) C 455 (by decide) (by decide) (by decide +kernel) rfl dL_law_33 (ls_11 C hL hk hI k2)
    · exact tl_swIn (off := 435) C 468 (by decide) (by decide) (by decide +kernel) rfl dL_law_33 (ls_12 C hL hk hI k2)
    · exact tl_swIn (off := 468) C 501 (by decide) (by decide) (by decide +kernel) rfl dL_law_33 (ls_13 C hL hk hI k2)
    · exact tl_swIn (off := 491) C 524 (by decide) (by decide) (by decide +kernel) rfl dL_law_33 (ls_14 C hL hk hI k2)
    · exact tl_swIn (off := 524) C 557 (by decide) (by decide) (by decide +kernel) rfl dL_law_33 (ls_15 C hL hk hI k2)
    · exact tl_swIn (off := 537) C 570 (by decide) (by decide) (by decide +kernel) rfl dL_law_33 (ls_16 C hL hk hI k2)
    · exact tl_swIn (off := 560) C 593 (by decide) (by decide) (by decide +kernel) rfl dL_law_33 (ls_17 C hL hk hI k2)
    · exact tl_swIn (off := 583) C 616 (by decide) (by decide) (by decide +kernel) rfl dL_law_33 (ls_18 C hL hk hI k2)
    · exact tl_swIn (off := 606) C 639 (by decide) (by decide) (by decide +kernel) rfl dL_law_33 (ls_19 C hL hk hI k2)
    · exact tl_swIn (off := 629) C 662 (by decide) (by decide) (by decide +kernel) rfl dL_law_33 (ls_20 C hL hk hI k2)
    · exact tl_swIn (off := 662) C 695 (by decide) (by decide) (by decide +kernel) rfl dL_law_33 (ls_21 C hL hk hI k2)
    · exact tl_swIn (off := 685) C 718 (by decide) (by decide) (by decide +kernel) rfl dL_law_33 (ls_22 C hL hk hI k2)
    · exact tl_swIn (off := 719) C 752 (by decide) (by decide) (by decide +kernel) rfl dL_law_33 (ls_23 C hL hk hI k2)
    · exact tl_swIn (off := 743) C 776 (by decide) (by decide) (by decide +kernel) rfl dL_law_33 (ls_24 C hL hk hI k2)
    · exact tl_swIn (off := 776) C 809 (by decide) (by decide) (by decide +kernel) rfl dL_law_33 (ls_25 C hL hk hI k2)
    · exact tl_swIn (off := 799) C 832 (by decide) (by decide) (by decide +kernel) rfl dL_law_33 (ls_26 C hL hk hI k2)
    · exact tl_swIn (off := 832) C 865 (by decide) (by decide) (by decide +kernel) rfl dL_law_33 (ls_27 C hL hk hI k2)
    · exact tl_swIn (off := 845) C 878 (by decide) (by decide) (by decide +kernel) rfl dL_law_33 (ls_28 C hL hk hI k2)
    · exact tl_swIn (off := 878) C 911 (by decide) (by decide) (by decide +kernel) rfl dL_law_33 (ls_29 C hL hk hI k2)
    · exact tl_swIn (off := 891) C 924 (by decide) (by decide) (by decide +kernel) rfl dL_law_33 (ls_30 C hL hk hI k2)
    · exact tl_swIn (off := 904) C 937 (by decide) (by decide) (by decide +kernel) rfl dL_law_33 (ls_31 C hL hk hI k2)
    · exact tl_swIn (off := 927) C 960 (by decide) (by decide) (by decide +kernel) rfl dL_law_33 (ls_32 C hL hk hI k2)
    · exact tl_swIn (off := 970) C 1003 (by decide) (by decide) (by decide +kernel) rfl dL_law_33 (ls_33 C hL hk hI k2)
    · exact tl_swIn (off := 1043) C 1076 (by decide) (by decide) (by decide +kernel) rfl dL_law_33 (ls_34 C hL hk hI k2)
    · exact tl_swIn (off := 1077) C 1110 (by decide) (by decide) (by decide +kernel) rfl dL_law_33 (ls_35 C hL hk hI k2)
  · exact tl_swOut C 1173 (sw_out h rfl) rfl dL_law_33 (k2 M L hI)
theorem law_loop (C : LX p s m meth c g b Ln xs) (hL : Ln ≤ 3072) (hI : INV M L) : Tl p e s m below meth c g b 18 (lcs g b 0) [] M L := by
  have H : ∀ M L, INV M L → Tl p e s m below meth c g b 18 (lcs g b 0) [] M L := by
    have e6 : nI Ln - 6 = zI ((Ln : Int) - 6) := by
      rw [fa_eq, fb_subI (by rw [nI_toInt (by omega), show (6 : Int32).toInt = 6 from rfl]; omega) (by rw [nI_toInt (by omega), show (6 : Int32).toInt = 6 from rfl]; omega), nI_toInt (by omega), show (6 : Int32).toInt = 6 from rfl, zI_t (by omega) (by omega)]
    refine tm_loop (N := Ln / 6) (fun k => ∀ M L, INV M L → Tl p e s m below meth c g b 18 (lcs g b k) [] M L) (fun k hk ih M L hI => ?_) (fun M L hI => ?_)
    · refine tl_iload_3 C rfl 19 rfl dL_law_18 ?_
      refine tl_aload_0 C rfl 20 rfl dL_law_19 ?_
      refine tl_slen C 21 rfl dL_law_20 ?_
      refine tl_bipush 6 C (by decide) 23 rfl dL_law_21 ?_
      refine tl_isub C 24 rfl dL_law_23 ?_
      rw [e6]
      refine tl_icmp_gt C 1179 27 rfl rfl dL_law_24 (fun q => ?_) (fun _ => law_step C hL (by omega) hI ih)
      exfalso
      rw [fa_lt, zI_t (by omega) (by omega), nI_toInt (by omega)] at q
      omega
    · refine tl_iload_3 C rfl 19 rfl dL_law_18 ?_
      refine tl_aload_0 C rfl 20 rfl dL_law_19 ?_
      refine tl_slen C 21 rfl dL_law_20 ?_
      refine tl_bipush 6 C (by decide) 23 rfl dL_law_21 ?_
      refine tl_isub C 24 rfl dL_law_23 ?_
      rw [e6]
      refine tl_icmp_gt C 1179 27 rfl rfl dL_law_24 (fun _ => tl_ret C dL_law_1179 dL_law_1180) (fun q => ?_)
      exfalso
      rw [fa_lt, zI_t (by omega) (by omega), nI_toInt (by omega)] at q
      omega
  exact H M L hI
end LawC
