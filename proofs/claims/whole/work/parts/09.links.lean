theorem ini_X0 : Cond.initialized RX0 ∈ tbU := tbm 66 (by decide +kernel) (by decide +kernel)
theorem ini_X1 : Cond.initialized RX1 ∈ tbU := tbm 61 (by decide +kernel) (by decide +kernel)
theorem ini_X2 : Cond.initialized RX2 ∈ tbU := tbm 58 (by decide +kernel) (by decide +kernel)
theorem ini_X3 : Cond.initialized RX3 ∈ tbU := tbm 60 (by decide +kernel) (by decide +kernel)
theorem ini_X4 : Cond.initialized RX4 ∈ tbU := tbm 57 (by decide +kernel) (by decide +kernel)
theorem ini_X5 : Cond.initialized RX5 ∈ tbU := tbm 59 (by decide +kernel) (by decide +kernel)
theorem ini_X6 : Cond.initialized RX6 ∈ tbU := tbm 64 (by decide +kernel) (by decide +kernel)
theorem ini_X7 : Cond.initialized RX7 ∈ tbU := tbm 62 (by decide +kernel) (by decide +kernel)
theorem ini_X8 : Cond.initialized RX8 ∈ tbU := tbm 63 (by decide +kernel) (by decide +kernel)
theorem ini_X9 : Cond.initialized RX9 ∈ tbU := tbm 56 (by decide +kernel) (by decide +kernel)
theorem ini_X10 : Cond.initialized RX10 ∈ tbU := tbm 65 (by decide +kernel) (by decide +kernel)
theorem ini_J6 : Cond.initialized RJ6 ∈ tbU := tbm 69 (by decide +kernel) (by decide +kernel)
theorem ini_J9 : Cond.initialized RJ9 ∈ tbU := tbm 67 (by decide +kernel) (by decide +kernel)
theorem ini_J10 : Cond.initialized RJ10 ∈ tbU := tbm 68 (by decide +kernel) (by decide +kernel)
theorem ini_L : Cond.initialized RL ∈ tbU := tbm 55 (by decide +kernel) (by decide +kernel)
theorem inU_X1 : ∀ w ∈ u_ws RX1 TX1 4, w ∈ tbU := by decide +kernel
theorem inU_X2 : ∀ w ∈ u_ws RX2 TX2 3, w ∈ tbU := by decide +kernel
theorem inU_X3 : ∀ w ∈ u_ws RX3 TX3 8, w ∈ tbU := by decide +kernel
theorem inU_X4 : ∀ w ∈ u_ws RX4 TX4 8, w ∈ tbU := by decide +kernel
theorem inU_X5 : ∀ w ∈ u_ws RX5 TX5 7, w ∈ tbU := by decide +kernel
theorem inU_X6 : ∀ w ∈ u_ws RX6 TX6 3, w ∈ tbU := by decide +kernel
theorem inU_X7 : ∀ w ∈ u_ws RX7 TX7 2, w ∈ tbU := by decide +kernel
theorem inU_X8 : ∀ w ∈ u_ws RX8 TX8 1, w ∈ tbU := by decide +kernel
theorem inU_X9 : ∀ w ∈ u_ws RX9 TX9 9, w ∈ tbU := by decide +kernel
theorem inU_X10 : ∀ w ∈ u_ws RX10 TX10 18, w ∈ tbU := by decide +kernel
theorem mv_X9_voters : MV yX9_voters cX9_voters 3 (some .int) 1 := ⟨tbm 298 (by decide +kernel) (by decide +kernel), tbm 299 (by decide +kernel) (by decide +kernel), ini_X9, tbm 300 (by decide +kernel) (by decide +kernel), by decide +kernel, by decide⟩
theorem mv_X4_startAnew : MV yX4_startAnew cX4_startAnew 3 none 1 := ⟨tbm 302 (by decide +kernel) (by decide +kernel), tbm 303 (by decide +kernel) (by decide +kernel), ini_X4, tbm 304 (by decide +kernel) (by decide +kernel), by decide +kernel, by decide⟩
theorem mv_X9_say : MV yX9_say cX9_say 4 (some .int) 2 := ⟨tbm 306 (by decide +kernel) (by decide +kernel), tbm 307 (by decide +kernel) (by decide +kernel), ini_X9, tbm 308 (by decide +kernel) (by decide +kernel), by decide +kernel, by decide⟩
theorem mv_X4_hasLot : MV yX4_hasLot cX4_hasLot 2 (some .boolean) 1 := ⟨tbm 310 (by decide +kernel) (by decide +kernel), tbm 311 (by decide +kernel) (by decide +kernel), ini_X4, tbm 312 (by decide +kernel) (by decide +kernel), by decide +kernel, by decide⟩
theorem mv_X4_lots : MV yX4_lots cX4_lots 1 (some .int) 0 := ⟨tbm 314 (by decide +kernel) (by decide +kernel), tbm 315 (by decide +kernel) (by decide +kernel), ini_X4, tbm 316 (by decide +kernel) (by decide +kernel), by decide +kernel, by decide⟩
theorem ms_X9_isYesOrNo : MS yX9_isYesOrNo cX9_isYesOrNo 1 (some .boolean) 1 := ⟨tbm 318 (by decide +kernel) (by decide +kernel), ini_X9, tbm 319 (by decide +kernel) (by decide +kernel), by decide +kernel, by decide⟩
theorem ms_X0_says : MS yX0_says cX0_says 2 (some .int) 2 := ⟨tbm 321 (by decide +kernel) (by decide +kernel), ini_X0, tbm 322 (by decide +kernel) (by decide +kernel), by decide +kernel, by decide⟩
theorem ms_X0_flipped : MS yX0_flipped cX0_flipped 2 (some .int) 2 := ⟨tbm 324 (by decide +kernel) (by decide +kernel), ini_X0, tbm 325 (by decide +kernel) (by decide +kernel), by decide +kernel, by decide⟩
theorem mv_X9_code : MV yX9_code cX9_code 3 (some .int) 1 := ⟨tbm 327 (by decide +kernel) (by decide +kernel), tbm 328 (by decide +kernel) (by decide +kernel), ini_X9, tbm 329 (by decide +kernel) (by decide +kernel), by decide +kernel, by decide⟩
theorem ms_X0_allYes : MS yX0_allYes cX0_allYes 1 (some .int) 1 := ⟨tbm 331 (by decide +kernel) (by decide +kernel), ini_X0, tbm 332 (by decide +kernel) (by decide +kernel), by decide +kernel, by decide⟩
theorem mv_X9_weight : MV yX9_weight cX9_weight 4 (some .int) 2 := ⟨tbm 334 (by decide +kernel) (by decide +kernel), tbm 335 (by decide +kernel) (by decide +kernel), ini_X9, tbm 336 (by decide +kernel) (by decide +kernel), by decide +kernel, by decide⟩
theorem mv_X4_hasVoter : MV yX4_hasVoter cX4_hasVoter 2 (some .boolean) 1 := ⟨tbm 338 (by decide +kernel) (by decide +kernel), tbm 339 (by decide +kernel) (by decide +kernel), ini_X4, tbm 340 (by decide +kernel) (by decide +kernel), by decide +kernel, by decide⟩
theorem mv_X9_quota : MV yX9_quota cX9_quota 3 (some .int) 1 := ⟨tbm 342 (by decide +kernel) (by decide +kernel), tbm 343 (by decide +kernel) (by decide +kernel), ini_X9, tbm 344 (by decide +kernel) (by decide +kernel), by decide +kernel, by decide⟩
theorem mv_X9_weigh : MV yX9_weigh cX9_weigh 1 (some .int) 0 := ⟨tbm 346 (by decide +kernel) (by decide +kernel), tbm 347 (by decide +kernel) (by decide +kernel), ini_X9, tbm 348 (by decide +kernel) (by decide +kernel), by decide +kernel, by decide⟩
theorem mv_X4_weighed : MV yX4_weighed cX4_weighed 3 (some .int) 0 := ⟨tbm 350 (by decide +kernel) (by decide +kernel), tbm 351 (by decide +kernel) (by decide +kernel), ini_X4, tbm 352 (by decide +kernel) (by decide +kernel), by decide +kernel, by decide⟩
theorem mv_X4_worthOf : MV yX4_worthOf cX4_worthOf 2 (some .int) 1 := ⟨tbm 354 (by decide +kernel) (by decide +kernel), tbm 355 (by decide +kernel) (by decide +kernel), ini_X4, tbm 356 (by decide +kernel) (by decide +kernel), by decide +kernel, by decide⟩
theorem ms_X3_worth : MS yX3_worth cX3_worth 4 (some .int) 2 := ⟨tbm 358 (by decide +kernel) (by decide +kernel), ini_X3, tbm 359 (by decide +kernel) (by decide +kernel), by decide +kernel, by decide⟩
theorem mv_X4_take : MV yX4_take cX4_take 2 (some .int) 1 := ⟨tbm 361 (by decide +kernel) (by decide +kernel), tbm 362 (by decide +kernel) (by decide +kernel), ini_X4, tbm 363 (by decide +kernel) (by decide +kernel), by decide +kernel, by decide⟩
theorem mv_X9_becomes : MV yX9_becomes cX9_becomes 2 (some .int) 1 := ⟨tbm 365 (by decide +kernel) (by decide +kernel), tbm 366 (by decide +kernel) (by decide +kernel), ini_X9, tbm 367 (by decide +kernel) (by decide +kernel), by decide +kernel, by decide⟩
theorem ms_X0_dual : MS yX0_dual cX0_dual 4 (some .int) 2 := ⟨tbm 369 (by decide +kernel) (by decide +kernel), ini_X0, tbm 370 (by decide +kernel) (by decide +kernel), by decide +kernel, by decide⟩
theorem ms_X0_turned : MS yX0_turned cX0_turned 3 (some .int) 2 := ⟨tbm 372 (by decide +kernel) (by decide +kernel), ini_X0, tbm 373 (by decide +kernel) (by decide +kernel), by decide +kernel, by decide⟩
theorem ms_X0_opposite : MS yX0_opposite cX0_opposite 2 (some .int) 2 := ⟨tbm 377 (by decide +kernel) (by decide +kernel), ini_X0, tbm 378 (by decide +kernel) (by decide +kernel), by decide +kernel, by decide⟩
theorem mv_X9_takeLeastWeights : MV yX9_takeLeastWeights cX9_takeLeastWeights 1 (some .int) 0 := ⟨tbm 383 (by decide +kernel) (by decide +kernel), tbm 0 (by decide +kernel) (by decide +kernel), ini_X9, tbm 384 (by decide +kernel) (by decide +kernel), by decide +kernel, by decide⟩
theorem mv_X3_balance : MV yX3_balance cX3_balance 3 (some .boolean) 2 := ⟨tbm 386 (by decide +kernel) (by decide +kernel), tbm 387 (by decide +kernel) (by decide +kernel), ini_X3, tbm 388 (by decide +kernel) (by decide +kernel), by decide +kernel, by decide⟩
theorem mv_X3_setBounds : MV yX3_setBounds cX3_setBounds 6 (some .boolean) 2 := ⟨tbm 391 (by decide +kernel) (by decide +kernel), tbm 1 (by decide +kernel) (by decide +kernel), ini_X3, tbm 392 (by decide +kernel) (by decide +kernel), by decide +kernel, by decide⟩
theorem ms_X0_winsBy : MS yX0_winsBy cX0_winsBy 3 (some .int) 3 := ⟨tbm 394 (by decide +kernel) (by decide +kernel), ini_X0, tbm 395 (by decide +kernel) (by decide +kernel), by decide +kernel, by decide⟩
theorem ms_X0_losesBy : MS yX0_losesBy cX0_losesBy 2 (some .int) 2 := ⟨tbm 397 (by decide +kernel) (by decide +kernel), ini_X0, tbm 398 (by decide +kernel) (by decide +kernel), by decide +kernel, by decide⟩
theorem mv_X3_tryAll : MV yX3_tryAll cX3_tryAll 7 none 2 := ⟨tbm 402 (by decide +kernel) (by decide +kernel), tbm 2 (by decide +kernel) (by decide +kernel), ini_X3, tbm 403 (by decide +kernel) (by decide +kernel), by decide +kernel, by decide⟩
theorem mv_X3_holdIfLess : MV yX3_holdIfLess cX3_holdIfLess 5 none 2 := ⟨tbm 406 (by decide +kernel) (by decide +kernel), tbm 3 (by decide +kernel) (by decide +kernel), ini_X3, tbm 407 (by decide +kernel) (by decide +kernel), by decide +kernel, by decide⟩
theorem ms_J9_abs_0f7a4 : MS yJ9_abs_0f7a4 cJ9_abs_0f7a4 1 (some .int) 1 := ⟨tbm 409 (by decide +kernel) (by decide +kernel), ini_J9, tbm 410 (by decide +kernel) (by decide +kernel), by decide +kernel, by decide⟩
theorem mv_X3_divides : MV yX3_divides cX3_divides 6 (some .boolean) 3 := ⟨tbm 413 (by decide +kernel) (by decide +kernel), tbm 4 (by decide +kernel) (by decide +kernel), ini_X3, tbm 414 (by decide +kernel) (by decide +kernel), by decide +kernel, by decide⟩
theorem ms_J9_min_7cf53 : MS yJ9_min_7cf53 cJ9_min_7cf53 2 (some .int) 2 := ⟨tbm 418 (by decide +kernel) (by decide +kernel), ini_J9, tbm 419 (by decide +kernel) (by decide +kernel), by decide +kernel, by decide⟩
theorem ms_J9_max_7cf53 : MS yJ9_max_7cf53 cJ9_max_7cf53 2 (some .int) 2 := ⟨tbm 421 (by decide +kernel) (by decide +kernel), ini_J9, tbm 422 (by decide +kernel) (by decide +kernel), by decide +kernel, by decide⟩
theorem ms_X4_copyRow : MS yX4_copyRow cX4_copyRow 2 none 2 := ⟨tbm 424 (by decide +kernel) (by decide +kernel), ini_X4, tbm 425 (by decide +kernel) (by decide +kernel), by decide +kernel, by decide⟩
theorem mv_X9_turn : MV yX9_turn cX9_turn 2 (some .int) 1 := ⟨tbm 432 (by decide +kernel) (by decide +kernel), tbm 433 (by decide +kernel) (by decide +kernel), ini_X9, tbm 434 (by decide +kernel) (by decide +kernel), by decide +kernel, by decide⟩
theorem mv_X9_exchange : MV yX9_exchange cX9_exchange 3 (some .int) 2 := ⟨tbm 437 (by decide +kernel) (by decide +kernel), tbm 438 (by decide +kernel) (by decide +kernel), ini_X9, tbm 439 (by decide +kernel) (by decide +kernel), by decide +kernel, by decide⟩
theorem ms_X0_changedAbout : MS yX0_changedAbout cX0_changedAbout 8 (some .int) 3 := ⟨tbm 441 (by decide +kernel) (by decide +kernel), ini_X0, tbm 442 (by decide +kernel) (by decide +kernel), by decide +kernel, by decide⟩
theorem mv_X9_keep : MV yX9_keep cX9_keep 1 (some .int) 0 := ⟨tbm 446 (by decide +kernel) (by decide +kernel), tbm 447 (by decide +kernel) (by decide +kernel), ini_X9, tbm 448 (by decide +kernel) (by decide +kernel), by decide +kernel, by decide⟩
theorem mv_X9_feed : MV yX9_feed cX9_feed 2 (some .int) 1 := ⟨tbm 450 (by decide +kernel) (by decide +kernel), tbm 451 (by decide +kernel) (by decide +kernel), ini_X9, tbm 452 (by decide +kernel) (by decide +kernel), by decide +kernel, by decide⟩
theorem mv_X5_append : MV yX5_append cX5_append 2 (some .boolean) 1 := ⟨tbm 454 (by decide +kernel) (by decide +kernel), tbm 455 (by decide +kernel) (by decide +kernel), ini_X5, tbm 456 (by decide +kernel) (by decide +kernel), by decide +kernel, by decide⟩
theorem mv_X9_read : MV yX9_read cX9_read 4 (some .int) 0 := ⟨tbm 458 (by decide +kernel) (by decide +kernel), tbm 459 (by decide +kernel) (by decide +kernel), ini_X9, tbm 460 (by decide +kernel) (by decide +kernel), by decide +kernel, by decide⟩
theorem mv_X5_parse : MV yX5_parse cX5_parse 2 (some .int) 0 := ⟨tbm 462 (by decide +kernel) (by decide +kernel), tbm 463 (by decide +kernel) (by decide +kernel), ini_X5, tbm 464 (by decide +kernel) (by decide +kernel), by decide +kernel, by decide⟩
theorem mv_X5_takeClause : MV yX5_takeClause cX5_takeClause 3 (some .boolean) 1 := ⟨tbm 467 (by decide +kernel) (by decide +kernel), tbm 5 (by decide +kernel) (by decide +kernel), ini_X5, tbm 468 (by decide +kernel) (by decide +kernel), by decide +kernel, by decide⟩
theorem mv_X5_sign : MV yX5_sign cX5_sign 1 (some .int) 0 := ⟨tbm 471 (by decide +kernel) (by decide +kernel), tbm 6 (by decide +kernel) (by decide +kernel), ini_X5, tbm 472 (by decide +kernel) (by decide +kernel), by decide +kernel, by decide⟩
theorem mv_X5_takeDigit : MV yX5_takeDigit cX5_takeDigit 3 (some .boolean) 2 := ⟨tbm 475 (by decide +kernel) (by decide +kernel), tbm 7 (by decide +kernel) (by decide +kernel), ini_X5, tbm 476 (by decide +kernel) (by decide +kernel), by decide +kernel, by decide⟩
theorem mv_X5_isDigit : MV yX5_isDigit cX5_isDigit 1 (some .boolean) 0 := ⟨tbm 479 (by decide +kernel) (by decide +kernel), tbm 8 (by decide +kernel) (by decide +kernel), ini_X5, tbm 480 (by decide +kernel) (by decide +kernel), by decide +kernel, by decide⟩
theorem mv_X5_takeLot : MV yX5_takeLot cX5_takeLot 3 none 1 := ⟨tbm 483 (by decide +kernel) (by decide +kernel), tbm 9 (by decide +kernel) (by decide +kernel), ini_X5, tbm 484 (by decide +kernel) (by decide +kernel), by decide +kernel, by decide⟩
theorem mv_X5_takeNumber : MV yX5_takeNumber cX5_takeNumber 5 (some .boolean) 2 := ⟨tbm 487 (by decide +kernel) (by decide +kernel), tbm 10 (by decide +kernel) (by decide +kernel), ini_X5, tbm 488 (by decide +kernel) (by decide +kernel), by decide +kernel, by decide⟩
theorem mv_X9_carryOut : MV yX9_carryOut cX9_carryOut 4 (some .int) 3 := ⟨tbm 491 (by decide +kernel) (by decide +kernel), tbm 11 (by decide +kernel) (by decide +kernel), ini_X9, tbm 492 (by decide +kernel) (by decide +kernel), by decide +kernel, by decide⟩
theorem mv_X9_of : MV yX9_of cX9_of 3 (some .int) 2 := ⟨tbm 502 (by decide +kernel) (by decide +kernel), tbm 503 (by decide +kernel) (by decide +kernel), ini_X9, tbm 504 (by decide +kernel) (by decide +kernel), by decide +kernel, by decide⟩
theorem mv_X9_told : MV yX9_told cX9_told 2 (some .int) 1 := ⟨tbm 507 (by decide +kernel) (by decide +kernel), tbm 508 (by decide +kernel) (by decide +kernel), ini_X9, tbm 509 (by decide +kernel) (by decide +kernel), by decide +kernel, by decide⟩
theorem ms_X0_isRising : MS yX0_isRising cX0_isRising 3 (some .boolean) 2 := ⟨tbm 511 (by decide +kernel) (by decide +kernel), ini_X0, tbm 512 (by decide +kernel) (by decide +kernel), by decide +kernel, by decide⟩
theorem ms_X9_oneIf : MS yX9_oneIf cX9_oneIf 1 (some .int) 1 := ⟨tbm 514 (by decide +kernel) (by decide +kernel), ini_X9, tbm 515 (by decide +kernel) (by decide +kernel), by decide +kernel, by decide⟩
theorem ms_X0_isOwnDual : MS yX0_isOwnDual cX0_isOwnDual 2 (some .boolean) 2 := ⟨tbm 517 (by decide +kernel) (by decide +kernel), ini_X0, tbm 518 (by decide +kernel) (by decide +kernel), by decide +kernel, by decide⟩
theorem mv_X8_ofCode : MV yX8_ofCode cX8_ofCode 10 (some .int) 2 := ⟨tbm 521 (by decide +kernel) (by decide +kernel), tbm 522 (by decide +kernel) (by decide +kernel), ini_X8, tbm 523 (by decide +kernel) (by decide +kernel), by decide +kernel, by decide⟩
theorem ms_X8_key : MS yX8_key cX8_key 4 (some .int) 1 := ⟨tbm 525 (by decide +kernel) (by decide +kernel), ini_X8, tbm 526 (by decide +kernel) (by decide +kernel), by decide +kernel, by decide⟩
theorem ms_X0_with : MS yX0_with cX0_with 1 (some .int) 1 := ⟨tbm 528 (by decide +kernel) (by decide +kernel), ini_X0, tbm 529 (by decide +kernel) (by decide +kernel), by decide +kernel, by decide⟩
theorem ms_J6_bitCount_0f7a4 : MS yJ6_bitCount_0f7a4 cJ6_bitCount_0f7a4 1 (some .int) 1 := ⟨tbm 531 (by decide +kernel) (by decide +kernel), ini_J6, tbm 532 (by decide +kernel) (by decide +kernel), by decide +kernel, by decide⟩
theorem mv_X8_countKeys : MV yX8_countKeys cX8_countKeys 4 none 2 := ⟨tbm 539 (by decide +kernel) (by decide +kernel), tbm 12 (by decide +kernel) (by decide +kernel), ini_X8, tbm 540 (by decide +kernel) (by decide +kernel), by decide +kernel, by decide⟩
theorem ms_X0_leastOnes : MS yX0_leastOnes cX0_leastOnes 4 (some .int) 2 := ⟨tbm 542 (by decide +kernel) (by decide +kernel), ini_X0, tbm 543 (by decide +kernel) (by decide +kernel), by decide +kernel, by decide⟩
theorem ms_X0_hasYesWithin : MS yX0_hasYesWithin cX0_hasYesWithin 3 (some .boolean) 2 := ⟨tbm 546 (by decide +kernel) (by decide +kernel), ini_X0, tbm 547 (by decide +kernel) (by decide +kernel), by decide +kernel, by decide⟩
theorem mv_X1_spread : MV yX1_spread cX1_spread 4 none 2 := ⟨tbm 550 (by decide +kernel) (by decide +kernel), tbm 551 (by decide +kernel) (by decide +kernel), ini_X1, tbm 552 (by decide +kernel) (by decide +kernel), by decide +kernel, by decide⟩
theorem mv_X1_forget : MV yX1_forget cX1_forget 2 none 0 := ⟨tbm 555 (by decide +kernel) (by decide +kernel), tbm 13 (by decide +kernel) (by decide +kernel), ini_X1, tbm 556 (by decide +kernel) (by decide +kernel), by decide +kernel, by decide⟩
theorem mv_X1_meet : MV yX1_meet cX1_meet 5 none 2 := ⟨tbm 559 (by decide +kernel) (by decide +kernel), tbm 14 (by decide +kernel) (by decide +kernel), ini_X1, tbm 560 (by decide +kernel) (by decide +kernel), by decide +kernel, by decide⟩
theorem mv_X1_meetAllBeside : MV yX1_meetAllBeside cX1_meetAllBeside 5 none 3 := ⟨tbm 563 (by decide +kernel) (by decide +kernel), tbm 15 (by decide +kernel) (by decide +kernel), ini_X1, tbm 564 (by decide +kernel) (by decide +kernel), by decide +kernel, by decide⟩
theorem mv_X1_stepsTo : MV yX1_stepsTo cX1_stepsTo 3 (some .int) 1 := ⟨tbm 570 (by decide +kernel) (by decide +kernel), tbm 571 (by decide +kernel) (by decide +kernel), ini_X1, tbm 572 (by decide +kernel) (by decide +kernel), by decide +kernel, by decide⟩
theorem mv_X9_weightOf : MV yX9_weightOf cX9_weightOf 3 (some .int) 2 := ⟨tbm 574 (by decide +kernel) (by decide +kernel), tbm 575 (by decide +kernel) (by decide +kernel), ini_X9, tbm 576 (by decide +kernel) (by decide +kernel), by decide +kernel, by decide⟩
theorem mv_X9_least : MV yX9_least cX9_least 1 (some .int) 0 := ⟨tbm 578 (by decide +kernel) (by decide +kernel), tbm 579 (by decide +kernel) (by decide +kernel), ini_X9, tbm 580 (by decide +kernel) (by decide +kernel), by decide +kernel, by decide⟩
theorem mv_X9_chow : MV yX9_chow cX9_chow 2 (some .int) 1 := ⟨tbm 582 (by decide +kernel) (by decide +kernel), tbm 583 (by decide +kernel) (by decide +kernel), ini_X9, tbm 584 (by decide +kernel) (by decide +kernel), by decide +kernel, by decide⟩
theorem mv_X9_trade : MV yX9_trade cX9_trade 2 (some .int) 1 := ⟨tbm 587 (by decide +kernel) (by decide +kernel), tbm 588 (by decide +kernel) (by decide +kernel), ini_X9, tbm 589 (by decide +kernel) (by decide +kernel), by decide +kernel, by decide⟩
theorem mv_X7_find : MV yX7_find cX7_find 5 none 2 := ⟨tbm 591 (by decide +kernel) (by decide +kernel), tbm 592 (by decide +kernel) (by decide +kernel), ini_X7, tbm 593 (by decide +kernel) (by decide +kernel), by decide +kernel, by decide⟩
theorem mv_X7_findFor : MV yX7_findFor cX7_findFor 8 none 4 := ⟨tbm 597 (by decide +kernel) (by decide +kernel), tbm 16 (by decide +kernel) (by decide +kernel), ini_X7, tbm 598 (by decide +kernel) (by decide +kernel), by decide +kernel, by decide⟩
theorem mv_X7_addTrade : MV yX7_addTrade cX7_addTrade 5 none 4 := ⟨tbm 601 (by decide +kernel) (by decide +kernel), tbm 17 (by decide +kernel) (by decide +kernel), ini_X7, tbm 602 (by decide +kernel) (by decide +kernel), by decide +kernel, by decide⟩
theorem mv_X9_leastLot : MV yX9_leastLot cX9_leastLot 5 (some .int) 1 := ⟨tbm 604 (by decide +kernel) (by decide +kernel), tbm 605 (by decide +kernel) (by decide +kernel), ini_X9, tbm 606 (by decide +kernel) (by decide +kernel), by decide +kernel, by decide⟩
theorem mv_X9_swings : MV yX9_swings cX9_swings 2 (some .int) 1 := ⟨tbm 609 (by decide +kernel) (by decide +kernel), tbm 610 (by decide +kernel) (by decide +kernel), ini_X9, tbm 611 (by decide +kernel) (by decide +kernel), by decide +kernel, by decide⟩
theorem ms_X0_swingsOf : MS yX0_swingsOf cX0_swingsOf 3 (some .int) 3 := ⟨tbm 613 (by decide +kernel) (by decide +kernel), ini_X0, tbm 614 (by decide +kernel) (by decide +kernel), by decide +kernel, by decide⟩
theorem mv_X9_see : MV yX9_see cX9_see 3 (some .int) 2 := ⟨tbm 618 (by decide +kernel) (by decide +kernel), tbm 619 (by decide +kernel) (by decide +kernel), ini_X9, tbm 620 (by decide +kernel) (by decide +kernel), by decide +kernel, by decide⟩
theorem mv_X9_addSaying : MV yX9_addSaying cX9_addSaying 4 (some .int) 3 := ⟨tbm 623 (by decide +kernel) (by decide +kernel), tbm 18 (by decide +kernel) (by decide +kernel), ini_X9, tbm 624 (by decide +kernel) (by decide +kernel), by decide +kernel, by decide⟩
theorem mv_X2_append : MV yX2_append cX2_append 3 (some .boolean) 2 := ⟨tbm 626 (by decide +kernel) (by decide +kernel), tbm 627 (by decide +kernel) (by decide +kernel), ini_X2, tbm 628 (by decide +kernel) (by decide +kernel), by decide +kernel, by decide⟩
theorem mv_X9_fits : MV yX9_fits cX9_fits 4 (some .int) 1 := ⟨tbm 630 (by decide +kernel) (by decide +kernel), tbm 631 (by decide +kernel) (by decide +kernel), ini_X9, tbm 632 (by decide +kernel) (by decide +kernel), by decide +kernel, by decide⟩
theorem mv_X9_leastFit : MV yX9_leastFit cX9_leastFit 4 (some .int) 0 := ⟨tbm 635 (by decide +kernel) (by decide +kernel), tbm 19 (by decide +kernel) (by decide +kernel), ini_X9, tbm 636 (by decide +kernel) (by decide +kernel), by decide +kernel, by decide⟩
theorem mv_X9_greatestFit : MV yX9_greatestFit cX9_greatestFit 4 (some .int) 0 := ⟨tbm 640 (by decide +kernel) (by decide +kernel), tbm 20 (by decide +kernel) (by decide +kernel), ini_X9, tbm 641 (by decide +kernel) (by decide +kernel), by decide +kernel, by decide⟩
theorem mv_X9_odds : MV yX9_odds cX9_odds 3 (some .long) 2 := ⟨tbm 644 (by decide +kernel) (by decide +kernel), tbm 645 (by decide +kernel) (by decide +kernel), ini_X9, tbm 646 (by decide +kernel) (by decide +kernel), by decide +kernel, by decide⟩
theorem ms_X9_partOfFraction : MS yX9_partOfFraction cX9_partOfFraction 6 (some .long) 3 := ⟨tbm 649 (by decide +kernel) (by decide +kernel), ini_X9, tbm 650 (by decide +kernel) (by decide +kernel), by decide +kernel, by decide⟩
theorem mv_X9_mean : MV yX9_mean cX9_mean 4 (some .long) 1 := ⟨tbm 652 (by decide +kernel) (by decide +kernel), tbm 653 (by decide +kernel) (by decide +kernel), ini_X9, tbm 654 (by decide +kernel) (by decide +kernel), by decide +kernel, by decide⟩
theorem mv_X9_event : MV yX9_event cX9_event 3 (some .int) 2 := ⟨tbm 656 (by decide +kernel) (by decide +kernel), tbm 657 (by decide +kernel) (by decide +kernel), ini_X9, tbm 658 (by decide +kernel) (by decide +kernel), by decide +kernel, by decide⟩
theorem mv_X9_eventFinds : MV yX9_eventFinds cX9_eventFinds 3 (some .boolean) 2 := ⟨tbm 661 (by decide +kernel) (by decide +kernel), tbm 21 (by decide +kernel) (by decide +kernel), ini_X9, tbm 662 (by decide +kernel) (by decide +kernel), by decide +kernel, by decide⟩
theorem mv_X9_after : MV yX9_after cX9_after 2 (some .int) 1 := ⟨tbm 664 (by decide +kernel) (by decide +kernel), tbm 665 (by decide +kernel) (by decide +kernel), ini_X9, tbm 666 (by decide +kernel) (by decide +kernel), by decide +kernel, by decide⟩
theorem mv_X9_codeBehindEvents : MV yX9_codeBehindEvents cX9_codeBehindEvents 5 (some .int) 0 := ⟨tbm 669 (by decide +kernel) (by decide +kernel), tbm 22 (by decide +kernel) (by decide +kernel), ini_X9, tbm 670 (by decide +kernel) (by decide +kernel), by decide +kernel, by decide⟩
theorem mv_X9_codeBehind : MV yX9_codeBehind cX9_codeBehind 4 (some .int) 3 := ⟨tbm 673 (by decide +kernel) (by decide +kernel), tbm 23 (by decide +kernel) (by decide +kernel), ini_X9, tbm 674 (by decide +kernel) (by decide +kernel), by decide +kernel, by decide⟩
theorem mv_X9_book : MV yX9_book cX9_book 3 (some .int) 2 := ⟨tbm 676 (by decide +kernel) (by decide +kernel), tbm 677 (by decide +kernel) (by decide +kernel), ini_X9, tbm 678 (by decide +kernel) (by decide +kernel), by decide +kernel, by decide⟩
theorem mv_X9_looked : MV yX9_looked cX9_looked 3 (some .int) 0 := ⟨tbm 680 (by decide +kernel) (by decide +kernel), tbm 681 (by decide +kernel) (by decide +kernel), ini_X9, tbm 682 (by decide +kernel) (by decide +kernel), by decide +kernel, by decide⟩
theorem mv_X9_judge : MV yX9_judge cX9_judge 5 (some .int) 2 := ⟨tbm 684 (by decide +kernel) (by decide +kernel), tbm 685 (by decide +kernel) (by decide +kernel), ini_X9, tbm 686 (by decide +kernel) (by decide +kernel), by decide +kernel, by decide⟩
theorem ms_X9_isTape : MS yX9_isTape cX9_isTape 1 (some .boolean) 1 := ⟨tbm 688 (by decide +kernel) (by decide +kernel), ini_X9, tbm 689 (by decide +kernel) (by decide +kernel), by decide +kernel, by decide⟩
theorem mv_X6_holdsNothing : MV yX6_holdsNothing cX6_holdsNothing 1 (some .boolean) 0 := ⟨tbm 691 (by decide +kernel) (by decide +kernel), tbm 692 (by decide +kernel) (by decide +kernel), ini_X6, tbm 693 (by decide +kernel) (by decide +kernel), by decide +kernel, by decide⟩
theorem mv_X9_image : MV yX9_image cX9_image 1 (some .int) 0 := ⟨tbm 695 (by decide +kernel) (by decide +kernel), tbm 696 (by decide +kernel) (by decide +kernel), ini_X9, tbm 697 (by decide +kernel) (by decide +kernel), by decide +kernel, by decide⟩
theorem mv_X4_copyFrom : MV yX4_copyFrom cX4_copyFrom 2 none 1 := ⟨tbm 699 (by decide +kernel) (by decide +kernel), tbm 700 (by decide +kernel) (by decide +kernel), ini_X4, tbm 701 (by decide +kernel) (by decide +kernel), by decide +kernel, by decide⟩
theorem mv_X2_copyFrom : MV yX2_copyFrom cX2_copyFrom 2 none 1 := ⟨tbm 704 (by decide +kernel) (by decide +kernel), tbm 705 (by decide +kernel) (by decide +kernel), ini_X2, tbm 706 (by decide +kernel) (by decide +kernel), by decide +kernel, by decide⟩
theorem mv_X9_undo : MV yX9_undo cX9_undo 1 (some .int) 0 := ⟨tbm 709 (by decide +kernel) (by decide +kernel), tbm 710 (by decide +kernel) (by decide +kernel), ini_X9, tbm 711 (by decide +kernel) (by decide +kernel), by decide +kernel, by decide⟩
theorem mv_X9_count : MV yX9_count cX9_count 2 (some .int) 1 := ⟨tbm 713 (by decide +kernel) (by decide +kernel), tbm 714 (by decide +kernel) (by decide +kernel), ini_X9, tbm 715 (by decide +kernel) (by decide +kernel), by decide +kernel, by decide⟩
theorem mv_X9_tape : MV yX9_tape cX9_tape 4 (some .int) 3 := ⟨tbm 717 (by decide +kernel) (by decide +kernel), tbm 718 (by decide +kernel) (by decide +kernel), ini_X9, tbm 719 (by decide +kernel) (by decide +kernel), by decide +kernel, by decide⟩
theorem mv_X6_become : MV yX6_become cX6_become 4 none 2 := ⟨tbm 721 (by decide +kernel) (by decide +kernel), tbm 722 (by decide +kernel) (by decide +kernel), ini_X6, tbm 723 (by decide +kernel) (by decide +kernel), by decide +kernel, by decide⟩
theorem mv_X9_item : MV yX9_item cX9_item 6 (some .int) 3 := ⟨tbm 725 (by decide +kernel) (by decide +kernel), tbm 726 (by decide +kernel) (by decide +kernel), ini_X9, tbm 727 (by decide +kernel) (by decide +kernel), by decide +kernel, by decide⟩
theorem mv_X6_hasPlace : MV yX6_hasPlace cX6_hasPlace 2 (some .boolean) 1 := ⟨tbm 729 (by decide +kernel) (by decide +kernel), tbm 730 (by decide +kernel) (by decide +kernel), ini_X6, tbm 731 (by decide +kernel) (by decide +kernel), by decide +kernel, by decide⟩
theorem mv_X6_cut : MV yX6_cut cX6_cut 3 (some .long) 1 := ⟨tbm 733 (by decide +kernel) (by decide +kernel), tbm 734 (by decide +kernel) (by decide +kernel), ini_X6, tbm 735 (by decide +kernel) (by decide +kernel), by decide +kernel, by decide⟩
theorem mv_X9_peek : MV yX9_peek cX9_peek 3 (some .long) 2 := ⟨tbm 737 (by decide +kernel) (by decide +kernel), tbm 738 (by decide +kernel) (by decide +kernel), ini_X9, tbm 739 (by decide +kernel) (by decide +kernel), by decide +kernel, by decide⟩
theorem mv_X9_shift : MV yX9_shift cX9_shift 8 (some .int) 5 := ⟨tbm 741 (by decide +kernel) (by decide +kernel), tbm 742 (by decide +kernel) (by decide +kernel), ini_X9, tbm 743 (by decide +kernel) (by decide +kernel), by decide +kernel, by decide⟩
theorem mv_X6_hasStretch : MV yX6_hasStretch cX6_hasStretch 3 (some .boolean) 2 := ⟨tbm 745 (by decide +kernel) (by decide +kernel), tbm 746 (by decide +kernel) (by decide +kernel), ini_X6, tbm 747 (by decide +kernel) (by decide +kernel), by decide +kernel, by decide⟩
theorem mv_X10_starts : MV yX10_starts cX10_starts 3 none 1 := ⟨tbm 760 (by decide +kernel) (by decide +kernel), tbm 24 (by decide +kernel) (by decide +kernel), ini_X10, tbm 761 (by decide +kernel) (by decide +kernel), by decide +kernel, by decide⟩
theorem mv_X10_voters : MV yX10_voters cX10_voters 3 (some .int) 1 := ⟨tbm 818 (by decide +kernel) (by decide +kernel), tbm 819 (by decide +kernel) (by decide +kernel), ini_X10, tbm 820 (by decide +kernel) (by decide +kernel), by decide +kernel, by decide⟩
theorem ms_X10_in : MS yX10_in cX10_in 6 (some .boolean) 3 := ⟨tbm 824 (by decide +kernel) (by decide +kernel), ini_X10, tbm 825 (by decide +kernel) (by decide +kernel), by decide +kernel, by decide⟩
theorem mv_X10_say : MV yX10_say cX10_say 4 (some .int) 2 := ⟨tbm 827 (by decide +kernel) (by decide +kernel), tbm 828 (by decide +kernel) (by decide +kernel), ini_X10, tbm 829 (by decide +kernel) (by decide +kernel), by decide +kernel, by decide⟩
theorem mv_X10_isLot : MV yX10_isLot cX10_isLot 2 (some .boolean) 1 := ⟨tbm 832 (by decide +kernel) (by decide +kernel), tbm 25 (by decide +kernel) (by decide +kernel), ini_X10, tbm 833 (by decide +kernel) (by decide +kernel), by decide +kernel, by decide⟩
theorem mv_X10_lots : MV yX10_lots cX10_lots 1 (some .int) 0 := ⟨tbm 836 (by decide +kernel) (by decide +kernel), tbm 26 (by decide +kernel) (by decide +kernel), ini_X10, tbm 837 (by decide +kernel) (by decide +kernel), by decide +kernel, by decide⟩
theorem mv_X10_code : MV yX10_code cX10_code 3 (some .int) 1 := ⟨tbm 839 (by decide +kernel) (by decide +kernel), tbm 840 (by decide +kernel) (by decide +kernel), ini_X10, tbm 841 (by decide +kernel) (by decide +kernel), by decide +kernel, by decide⟩
theorem mv_X10_most : MV yX10_most cX10_most 1 (some .int) 0 := ⟨tbm 844 (by decide +kernel) (by decide +kernel), tbm 27 (by decide +kernel) (by decide +kernel), ini_X10, tbm 845 (by decide +kernel) (by decide +kernel), by decide +kernel, by decide⟩
theorem mv_X10_weight : MV yX10_weight cX10_weight 4 (some .int) 2 := ⟨tbm 847 (by decide +kernel) (by decide +kernel), tbm 848 (by decide +kernel) (by decide +kernel), ini_X10, tbm 849 (by decide +kernel) (by decide +kernel), by decide +kernel, by decide⟩
theorem mv_X10_isVoter : MV yX10_isVoter cX10_isVoter 2 (some .boolean) 1 := ⟨tbm 852 (by decide +kernel) (by decide +kernel), tbm 28 (by decide +kernel) (by decide +kernel), ini_X10, tbm 853 (by decide +kernel) (by decide +kernel), by decide +kernel, by decide⟩
theorem mv_X10_quota : MV yX10_quota cX10_quota 3 (some .int) 1 := ⟨tbm 857 (by decide +kernel) (by decide +kernel), tbm 858 (by decide +kernel) (by decide +kernel), ini_X10, tbm 859 (by decide +kernel) (by decide +kernel), by decide +kernel, by decide⟩
theorem mv_X10_weigh : MV yX10_weigh cX10_weigh 1 (some .int) 0 := ⟨tbm 863 (by decide +kernel) (by decide +kernel), tbm 864 (by decide +kernel) (by decide +kernel), ini_X10, tbm 865 (by decide +kernel) (by decide +kernel), by decide +kernel, by decide⟩
theorem mv_X10_weighed : MV yX10_weighed cX10_weighed 3 (some .int) 0 := ⟨tbm 868 (by decide +kernel) (by decide +kernel), tbm 29 (by decide +kernel) (by decide +kernel), ini_X10, tbm 869 (by decide +kernel) (by decide +kernel), by decide +kernel, by decide⟩
theorem mv_X10_worth : MV yX10_worth cX10_worth 4 (some .int) 1 := ⟨tbm 872 (by decide +kernel) (by decide +kernel), tbm 30 (by decide +kernel) (by decide +kernel), ini_X10, tbm 873 (by decide +kernel) (by decide +kernel), by decide +kernel, by decide⟩
theorem ms_X10_bit : MS yX10_bit cX10_bit 1 (some .int) 1 := ⟨tbm 875 (by decide +kernel) (by decide +kernel), ini_X10, tbm 876 (by decide +kernel) (by decide +kernel), by decide +kernel, by decide⟩
theorem mv_X10_becomes : MV yX10_becomes cX10_becomes 3 (some .int) 1 := ⟨tbm 878 (by decide +kernel) (by decide +kernel), tbm 879 (by decide +kernel) (by decide +kernel), ini_X10, tbm 880 (by decide +kernel) (by decide +kernel), by decide +kernel, by decide⟩
theorem mv_X10_isLinear : MV yX10_isLinear cX10_isLinear 2 (some .boolean) 1 := ⟨tbm 883 (by decide +kernel) (by decide +kernel), tbm 31 (by decide +kernel) (by decide +kernel), ini_X10, tbm 884 (by decide +kernel) (by decide +kernel), by decide +kernel, by decide⟩
theorem mv_X10_tries : MV yX10_tries cX10_tries 5 none 3 := ⟨tbm 887 (by decide +kernel) (by decide +kernel), tbm 32 (by decide +kernel) (by decide +kernel), ini_X10, tbm 888 (by decide +kernel) (by decide +kernel), by decide +kernel, by decide⟩
theorem mv_X10_tells : MV yX10_tells cX10_tells 6 (some .boolean) 1 := ⟨tbm 891 (by decide +kernel) (by decide +kernel), tbm 33 (by decide +kernel) (by decide +kernel), ini_X10, tbm 892 (by decide +kernel) (by decide +kernel), by decide +kernel, by decide⟩
theorem mv_X10_worthBy : MV yX10_worthBy cX10_worthBy 5 (some .int) 2 := ⟨tbm 895 (by decide +kernel) (by decide +kernel), tbm 34 (by decide +kernel) (by decide +kernel), ini_X10, tbm 896 (by decide +kernel) (by decide +kernel), by decide +kernel, by decide⟩
theorem ms_X10_is : MS yX10_is cX10_is 2 (some .boolean) 2 := ⟨tbm 898 (by decide +kernel) (by decide +kernel), ini_X10, tbm 899 (by decide +kernel) (by decide +kernel), by decide +kernel, by decide⟩
theorem mv_X10_leastQuota : MV yX10_leastQuota cX10_leastQuota 6 (some .int) 1 := ⟨tbm 902 (by decide +kernel) (by decide +kernel), tbm 35 (by decide +kernel) (by decide +kernel), ini_X10, tbm 903 (by decide +kernel) (by decide +kernel), by decide +kernel, by decide⟩
theorem mv_X10_dual : MV yX10_dual cX10_dual 4 (some .int) 1 := ⟨tbm 906 (by decide +kernel) (by decide +kernel), tbm 36 (by decide +kernel) (by decide +kernel), ini_X10, tbm 907 (by decide +kernel) (by decide +kernel), by decide +kernel, by decide⟩
theorem mv_X10_turn : MV yX10_turn cX10_turn 2 (some .int) 1 := ⟨tbm 909 (by decide +kernel) (by decide +kernel), tbm 910 (by decide +kernel) (by decide +kernel), ini_X10, tbm 911 (by decide +kernel) (by decide +kernel), by decide +kernel, by decide⟩
theorem mv_X10_turned : MV yX10_turned cX10_turned 5 (some .int) 2 := ⟨tbm 914 (by decide +kernel) (by decide +kernel), tbm 37 (by decide +kernel) (by decide +kernel), ini_X10, tbm 915 (by decide +kernel) (by decide +kernel), by decide +kernel, by decide⟩
theorem mv_X10_exchange : MV yX10_exchange cX10_exchange 3 (some .int) 2 := ⟨tbm 917 (by decide +kernel) (by decide +kernel), tbm 918 (by decide +kernel) (by decide +kernel), ini_X10, tbm 919 (by decide +kernel) (by decide +kernel), by decide +kernel, by decide⟩
theorem mv_X10_changed : MV yX10_changed cX10_changed 7 (some .int) 3 := ⟨tbm 922 (by decide +kernel) (by decide +kernel), tbm 38 (by decide +kernel) (by decide +kernel), ini_X10, tbm 923 (by decide +kernel) (by decide +kernel), by decide +kernel, by decide⟩
theorem mv_X10_keep : MV yX10_keep cX10_keep 1 (some .int) 0 := ⟨tbm 925 (by decide +kernel) (by decide +kernel), tbm 926 (by decide +kernel) (by decide +kernel), ini_X10, tbm 927 (by decide +kernel) (by decide +kernel), by decide +kernel, by decide⟩
theorem mv_X10_weightOf : MV yX10_weightOf cX10_weightOf 3 (some .int) 2 := ⟨tbm 929 (by decide +kernel) (by decide +kernel), tbm 930 (by decide +kernel) (by decide +kernel), ini_X10, tbm 931 (by decide +kernel) (by decide +kernel), by decide +kernel, by decide⟩
theorem mv_X10_least : MV yX10_least cX10_least 1 (some .int) 0 := ⟨tbm 933 (by decide +kernel) (by decide +kernel), tbm 934 (by decide +kernel) (by decide +kernel), ini_X10, tbm 935 (by decide +kernel) (by decide +kernel), by decide +kernel, by decide⟩
theorem mv_X10_of : MV yX10_of cX10_of 3 (some .int) 2 := ⟨tbm 937 (by decide +kernel) (by decide +kernel), tbm 938 (by decide +kernel) (by decide +kernel), ini_X10, tbm 939 (by decide +kernel) (by decide +kernel), by decide +kernel, by decide⟩
theorem mv_X10_chow : MV yX10_chow cX10_chow 2 (some .int) 1 := ⟨tbm 941 (by decide +kernel) (by decide +kernel), tbm 942 (by decide +kernel) (by decide +kernel), ini_X10, tbm 943 (by decide +kernel) (by decide +kernel), by decide +kernel, by decide⟩
theorem mv_X10_chowOf : MV yX10_chowOf cX10_chowOf 5 (some .int) 2 := ⟨tbm 946 (by decide +kernel) (by decide +kernel), tbm 39 (by decide +kernel) (by decide +kernel), ini_X10, tbm 947 (by decide +kernel) (by decide +kernel), by decide +kernel, by decide⟩
theorem mv_X10_leastLot : MV yX10_leastLot cX10_leastLot 2 (some .int) 1 := ⟨tbm 949 (by decide +kernel) (by decide +kernel), tbm 950 (by decide +kernel) (by decide +kernel), ini_X10, tbm 951 (by decide +kernel) (by decide +kernel), by decide +kernel, by decide⟩
theorem mv_X10_nthLeast : MV yX10_nthLeast cX10_nthLeast 4 (some .int) 1 := ⟨tbm 954 (by decide +kernel) (by decide +kernel), tbm 40 (by decide +kernel) (by decide +kernel), ini_X10, tbm 955 (by decide +kernel) (by decide +kernel), by decide +kernel, by decide⟩
theorem mv_X10_isLeastLot : MV yX10_isLeastLot cX10_isLeastLot 3 (some .boolean) 1 := ⟨tbm 958 (by decide +kernel) (by decide +kernel), tbm 41 (by decide +kernel) (by decide +kernel), ini_X10, tbm 959 (by decide +kernel) (by decide +kernel), by decide +kernel, by decide⟩
theorem mv_X10_swings : MV yX10_swings cX10_swings 4 (some .int) 1 := ⟨tbm 961 (by decide +kernel) (by decide +kernel), tbm 962 (by decide +kernel) (by decide +kernel), ini_X10, tbm 963 (by decide +kernel) (by decide +kernel), by decide +kernel, by decide⟩
theorem mv_X10_told : MV yX10_told cX10_told 2 (some .int) 1 := ⟨tbm 965 (by decide +kernel) (by decide +kernel), tbm 966 (by decide +kernel) (by decide +kernel), ini_X10, tbm 967 (by decide +kernel) (by decide +kernel), by decide +kernel, by decide⟩
theorem mv_X10_isRising : MV yX10_isRising cX10_isRising 3 (some .boolean) 0 := ⟨tbm 970 (by decide +kernel) (by decide +kernel), tbm 42 (by decide +kernel) (by decide +kernel), ini_X10, tbm 971 (by decide +kernel) (by decide +kernel), by decide +kernel, by decide⟩
theorem mv_X10_twins : MV yX10_twins cX10_twins 5 (some .int) 0 := ⟨tbm 974 (by decide +kernel) (by decide +kernel), tbm 43 (by decide +kernel) (by decide +kernel), ini_X10, tbm 975 (by decide +kernel) (by decide +kernel), by decide +kernel, by decide⟩
theorem mv_X10_reached : MV yX10_reached cX10_reached 5 (some .int) 0 := ⟨tbm 978 (by decide +kernel) (by decide +kernel), tbm 44 (by decide +kernel) (by decide +kernel), ini_X10, tbm 979 (by decide +kernel) (by decide +kernel), by decide +kernel, by decide⟩
theorem mv_X10_moved : MV yX10_moved cX10_moved 4 (some .int) 2 := ⟨tbm 982 (by decide +kernel) (by decide +kernel), tbm 45 (by decide +kernel) (by decide +kernel), ini_X10, tbm 983 (by decide +kernel) (by decide +kernel), by decide +kernel, by decide⟩
theorem mv_X10_steps : MV yX10_steps cX10_steps 2 (some .int) 0 := ⟨tbm 986 (by decide +kernel) (by decide +kernel), tbm 46 (by decide +kernel) (by decide +kernel), ini_X10, tbm 987 (by decide +kernel) (by decide +kernel), by decide +kernel, by decide⟩
theorem mv_X10_trade : MV yX10_trade cX10_trade 8 (some .int) 1 := ⟨tbm 989 (by decide +kernel) (by decide +kernel), tbm 990 (by decide +kernel) (by decide +kernel), ini_X10, tbm 991 (by decide +kernel) (by decide +kernel), by decide +kernel, by decide⟩
theorem ms_X10_isTrade : MS yX10_isTrade cX10_isTrade 4 (some .boolean) 4 := ⟨tbm 993 (by decide +kernel) (by decide +kernel), ini_X10, tbm 994 (by decide +kernel) (by decide +kernel), by decide +kernel, by decide⟩
theorem mv_X10_see : MV yX10_see cX10_see 4 (some .int) 2 := ⟨tbm 996 (by decide +kernel) (by decide +kernel), tbm 997 (by decide +kernel) (by decide +kernel), ini_X10, tbm 998 (by decide +kernel) (by decide +kernel), by decide +kernel, by decide⟩
theorem mv_X10_fits : MV yX10_fits cX10_fits 5 (some .int) 1 := ⟨tbm 1000 (by decide +kernel) (by decide +kernel), tbm 1001 (by decide +kernel) (by decide +kernel), ini_X10, tbm 1002 (by decide +kernel) (by decide +kernel), by decide +kernel, by decide⟩
theorem mv_X10_isSeenBy : MV yX10_isSeenBy cX10_isSeenBy 4 (some .boolean) 1 := ⟨tbm 1005 (by decide +kernel) (by decide +kernel), tbm 47 (by decide +kernel) (by decide +kernel), ini_X10, tbm 1006 (by decide +kernel) (by decide +kernel), by decide +kernel, by decide⟩
theorem mv_X10_odds : MV yX10_odds cX10_odds 3 (some .long) 2 := ⟨tbm 1008 (by decide +kernel) (by decide +kernel), tbm 1009 (by decide +kernel) (by decide +kernel), ini_X10, tbm 1010 (by decide +kernel) (by decide +kernel), by decide +kernel, by decide⟩
theorem ms_X10_lowest : MS yX10_lowest cX10_lowest 11 (some .long) 3 := ⟨tbm 1013 (by decide +kernel) (by decide +kernel), ini_X10, tbm 1014 (by decide +kernel) (by decide +kernel), by decide +kernel, by decide⟩
theorem mv_X10_mean : MV yX10_mean cX10_mean 5 (some .long) 1 := ⟨tbm 1017 (by decide +kernel) (by decide +kernel), tbm 1018 (by decide +kernel) (by decide +kernel), ini_X10, tbm 1019 (by decide +kernel) (by decide +kernel), by decide +kernel, by decide⟩
theorem mv_X10_event : MV yX10_event cX10_event 4 (some .int) 2 := ⟨tbm 1021 (by decide +kernel) (by decide +kernel), tbm 1022 (by decide +kernel) (by decide +kernel), ini_X10, tbm 1023 (by decide +kernel) (by decide +kernel), by decide +kernel, by decide⟩
theorem mv_X10_isThere : MV yX10_isThere cX10_isThere 3 (some .boolean) 2 := ⟨tbm 1027 (by decide +kernel) (by decide +kernel), tbm 48 (by decide +kernel) (by decide +kernel), ini_X10, tbm 1028 (by decide +kernel) (by decide +kernel), by decide +kernel, by decide⟩
theorem mv_X10_after : MV yX10_after cX10_after 6 (some .int) 1 := ⟨tbm 1030 (by decide +kernel) (by decide +kernel), tbm 1031 (by decide +kernel) (by decide +kernel), ini_X10, tbm 1032 (by decide +kernel) (by decide +kernel), by decide +kernel, by decide⟩
theorem mv_X10_book : MV yX10_book cX10_book 4 (some .int) 2 := ⟨tbm 1034 (by decide +kernel) (by decide +kernel), tbm 1035 (by decide +kernel) (by decide +kernel), ini_X10, tbm 1036 (by decide +kernel) (by decide +kernel), by decide +kernel, by decide⟩
theorem mv_X10_looked : MV yX10_looked cX10_looked 3 (some .int) 0 := ⟨tbm 1038 (by decide +kernel) (by decide +kernel), tbm 1039 (by decide +kernel) (by decide +kernel), ini_X10, tbm 1040 (by decide +kernel) (by decide +kernel), by decide +kernel, by decide⟩
theorem mv_X10_feed : MV yX10_feed cX10_feed 2 (some .int) 1 := ⟨tbm 1042 (by decide +kernel) (by decide +kernel), tbm 1043 (by decide +kernel) (by decide +kernel), ini_X10, tbm 1044 (by decide +kernel) (by decide +kernel), by decide +kernel, by decide⟩
theorem mv_X10_read : MV yX10_read cX10_read 6 (some .int) 0 := ⟨tbm 1047 (by decide +kernel) (by decide +kernel), tbm 1048 (by decide +kernel) (by decide +kernel), ini_X10, tbm 1049 (by decide +kernel) (by decide +kernel), by decide +kernel, by decide⟩
theorem mv_X10_here : MV yX10_here cX10_here 1 (some .int) 0 := ⟨tbm 1052 (by decide +kernel) (by decide +kernel), tbm 49 (by decide +kernel) (by decide +kernel), ini_X10, tbm 1053 (by decide +kernel) (by decide +kernel), by decide +kernel, by decide⟩
theorem mv_X10_hasClause : MV yX10_hasClause cX10_hasClause 4 (some .boolean) 0 := ⟨tbm 1056 (by decide +kernel) (by decide +kernel), tbm 50 (by decide +kernel) (by decide +kernel), ini_X10, tbm 1057 (by decide +kernel) (by decide +kernel), by decide +kernel, by decide⟩
theorem mv_X10_takes : MV yX10_takes cX10_takes 2 none 1 := ⟨tbm 1060 (by decide +kernel) (by decide +kernel), tbm 51 (by decide +kernel) (by decide +kernel), ini_X10, tbm 1061 (by decide +kernel) (by decide +kernel), by decide +kernel, by decide⟩
theorem mv_X10_isDigit : MV yX10_isDigit cX10_isDigit 1 (some .boolean) 0 := ⟨tbm 1064 (by decide +kernel) (by decide +kernel), tbm 52 (by decide +kernel) (by decide +kernel), ini_X10, tbm 1065 (by decide +kernel) (by decide +kernel), by decide +kernel, by decide⟩
theorem mv_X10_hasNumber : MV yX10_hasNumber cX10_hasNumber 3 (some .boolean) 0 := ⟨tbm 1070 (by decide +kernel) (by decide +kernel), tbm 53 (by decide +kernel) (by decide +kernel), ini_X10, tbm 1071 (by decide +kernel) (by decide +kernel), by decide +kernel, by decide⟩
theorem mv_X10_isDone : MV yX10_isDone cX10_isDone 4 (some .boolean) 1 := ⟨tbm 1074 (by decide +kernel) (by decide +kernel), tbm 54 (by decide +kernel) (by decide +kernel), ini_X10, tbm 1075 (by decide +kernel) (by decide +kernel), by decide +kernel, by decide⟩
theorem mv_X10_judge : MV yX10_judge cX10_judge 4 (some .int) 2 := ⟨tbm 1086 (by decide +kernel) (by decide +kernel), tbm 1087 (by decide +kernel) (by decide +kernel), ini_X10, tbm 1088 (by decide +kernel) (by decide +kernel), by decide +kernel, by decide⟩
theorem ms_X10_isTape : MS yX10_isTape cX10_isTape 1 (some .boolean) 1 := ⟨tbm 1090 (by decide +kernel) (by decide +kernel), ini_X10, tbm 1091 (by decide +kernel) (by decide +kernel), by decide +kernel, by decide⟩
theorem mv_X10_tape : MV yX10_tape cX10_tape 5 (some .int) 3 := ⟨tbm 1094 (by decide +kernel) (by decide +kernel), tbm 1095 (by decide +kernel) (by decide +kernel), ini_X10, tbm 1096 (by decide +kernel) (by decide +kernel), by decide +kernel, by decide⟩
theorem mv_X10_item : MV yX10_item cX10_item 5 (some .int) 3 := ⟨tbm 1099 (by decide +kernel) (by decide +kernel), tbm 1100 (by decide +kernel) (by decide +kernel), ini_X10, tbm 1101 (by decide +kernel) (by decide +kernel), by decide +kernel, by decide⟩
theorem mv_X10_peek : MV yX10_peek cX10_peek 3 (some .long) 2 := ⟨tbm 1103 (by decide +kernel) (by decide +kernel), tbm 1104 (by decide +kernel) (by decide +kernel), ini_X10, tbm 1105 (by decide +kernel) (by decide +kernel), by decide +kernel, by decide⟩
theorem mv_X10_shift : MV yX10_shift cX10_shift 7 (some .int) 5 := ⟨tbm 1107 (by decide +kernel) (by decide +kernel), tbm 1108 (by decide +kernel) (by decide +kernel), ini_X10, tbm 1109 (by decide +kernel) (by decide +kernel), by decide +kernel, by decide⟩
theorem mv_X10_image : MV yX10_image cX10_image 2 (some .int) 0 := ⟨tbm 1111 (by decide +kernel) (by decide +kernel), tbm 1112 (by decide +kernel) (by decide +kernel), ini_X10, tbm 1113 (by decide +kernel) (by decide +kernel), by decide +kernel, by decide⟩
theorem mv_X10_undo : MV yX10_undo cX10_undo 2 (some .int) 0 := ⟨tbm 1115 (by decide +kernel) (by decide +kernel), tbm 1116 (by decide +kernel) (by decide +kernel), ini_X10, tbm 1117 (by decide +kernel) (by decide +kernel), by decide +kernel, by decide⟩
theorem mv_X10_count : MV yX10_count cX10_count 2 (some .int) 1 := ⟨tbm 1119 (by decide +kernel) (by decide +kernel), tbm 1120 (by decide +kernel) (by decide +kernel), ini_X10, tbm 1121 (by decide +kernel) (by decide +kernel), by decide +kernel, by decide⟩
theorem ml_L_9 : Cond.methodLink RL 9 yX9_init ∈ tbU := tbm 72 (by decide +kernel) (by decide +kernel)
theorem ml_X9_11 : Cond.methodLink RX9 11 yX4_init ∈ tbU := tbm 80 (by decide +kernel) (by decide +kernel)
theorem ml_X4_30 : Cond.methodLink RX4 30 yX2_init ∈ tbU := tbm 86 (by decide +kernel) (by decide +kernel)
theorem ml_X9_27 : Cond.methodLink RX9 27 yX5_init ∈ tbU := tbm 139 (by decide +kernel) (by decide +kernel)
theorem ml_X9_40 : Cond.methodLink RX9 40 yX3_init ∈ tbU := tbm 174 (by decide +kernel) (by decide +kernel)
theorem ml_X9_47 : Cond.methodLink RX9 47 yX1_init ∈ tbU := tbm 207 (by decide +kernel) (by decide +kernel)
theorem ml_X9_54 : Cond.methodLink RX9 54 yX7_init ∈ tbU := tbm 227 (by decide +kernel) (by decide +kernel)
theorem ml_X9_61 : Cond.methodLink RX9 61 yX8_init ∈ tbU := tbm 242 (by decide +kernel) (by decide +kernel)
theorem ml_X9_66 : Cond.methodLink RX9 66 yX6_init ∈ tbU := tbm 251 (by decide +kernel) (by decide +kernel)
theorem ml_L_13 : Cond.methodLink RL 13 yX9_voters ∈ tbU := tbm 297 (by decide +kernel) (by decide +kernel)
theorem ml_X9_71 : Cond.methodLink RX9 71 yX4_startAnew ∈ tbU := tbm 301 (by decide +kernel) (by decide +kernel)
theorem ml_L_18 : Cond.methodLink RL 18 yX9_say ∈ tbU := tbm 305 (by decide +kernel) (by decide +kernel)
theorem ml_X9_75 : Cond.methodLink RX9 75 yX4_hasLot ∈ tbU := tbm 309 (by decide +kernel) (by decide +kernel)
theorem ml_X4_63 : Cond.methodLink RX4 63 yX4_lots ∈ tbU := tbm 313 (by decide +kernel) (by decide +kernel)
theorem ml_X9_79 : Cond.methodLink RX9 79 yX9_isYesOrNo ∈ tbU := tbm 317 (by decide +kernel) (by decide +kernel)
theorem ml_X9_85 : Cond.methodLink RX9 85 yX0_says ∈ tbU := tbm 320 (by decide +kernel) (by decide +kernel)
theorem ml_X9_91 : Cond.methodLink RX9 91 yX0_flipped ∈ tbU := tbm 323 (by decide +kernel) (by decide +kernel)
theorem ml_L_23 : Cond.methodLink RL 23 yX9_code ∈ tbU := tbm 326 (by decide +kernel) (by decide +kernel)
theorem ml_X9_94 : Cond.methodLink RX9 94 yX0_allYes ∈ tbU := tbm 330 (by decide +kernel) (by decide +kernel)
theorem ml_L_27 : Cond.methodLink RL 27 yX9_weight ∈ tbU := tbm 333 (by decide +kernel) (by decide +kernel)
theorem ml_X9_98 : Cond.methodLink RX9 98 yX4_hasVoter ∈ tbU := tbm 337 (by decide +kernel) (by decide +kernel)
theorem ml_L_31 : Cond.methodLink RL 31 yX9_quota ∈ tbU := tbm 341 (by decide +kernel) (by decide +kernel)
theorem ml_L_35 : Cond.methodLink RL 35 yX9_weigh ∈ tbU := tbm 345 (by decide +kernel) (by decide +kernel)
theorem ml_X9_108 : Cond.methodLink RX9 108 yX4_weighed ∈ tbU := tbm 349 (by decide +kernel) (by decide +kernel)
theorem ml_X4_73 : Cond.methodLink RX4 73 yX4_worthOf ∈ tbU := tbm 353 (by decide +kernel) (by decide +kernel)
theorem ml_X4_67 : Cond.methodLink RX4 67 yX3_worth ∈ tbU := tbm 357 (by decide +kernel) (by decide +kernel)
theorem ml_X9_112 : Cond.methodLink RX9 112 yX4_take ∈ tbU := tbm 360 (by decide +kernel) (by decide +kernel)
theorem ml_L_40 : Cond.methodLink RL 40 yX9_becomes ∈ tbU := tbm 364 (by decide +kernel) (by decide +kernel)
theorem ml_X9_115 : Cond.methodLink RX9 115 yX0_dual ∈ tbU := tbm 368 (by decide +kernel) (by decide +kernel)
theorem ml_X0_17 : Cond.methodLink RX0 17 yX0_turned ∈ tbU := tbm 371 (by decide +kernel) (by decide +kernel)
theorem ml_X0_21 : Cond.methodLink RX0 21 yX0_opposite ∈ tbU := tbm 376 (by decide +kernel) (by decide +kernel)
theorem ml_X0_13 : Cond.methodLink RX0 13 yX0_allYes ∈ tbU := tbm 379 (by decide +kernel) (by decide +kernel)
theorem ml_X9_118 : Cond.methodLink RX9 118 yX0_opposite ∈ tbU := tbm 380 (by decide +kernel) (by decide +kernel)
theorem ml_X9_121 : Cond.methodLink RX9 121 yX9_takeLeastWeights ∈ tbU := tbm 381 (by decide +kernel) (by decide +kernel)
theorem ml_X9_124 : Cond.methodLink RX9 124 yX3_balance ∈ tbU := tbm 385 (by decide +kernel) (by decide +kernel)
theorem ml_X3_37 : Cond.methodLink RX3 37 yX3_setBounds ∈ tbU := tbm 389 (by decide +kernel) (by decide +kernel)
theorem ml_X3_49 : Cond.methodLink RX3 49 yX0_winsBy ∈ tbU := tbm 393 (by decide +kernel) (by decide +kernel)
theorem ml_X0_35 : Cond.methodLink RX0 35 yX0_losesBy ∈ tbU := tbm 396 (by decide +kernel) (by decide +kernel)
theorem ml_X3_55 : Cond.methodLink RX3 55 yX0_losesBy ∈ tbU := tbm 399 (by decide +kernel) (by decide +kernel)
theorem ml_X3_41 : Cond.methodLink RX3 41 yX3_tryAll ∈ tbU := tbm 400 (by decide +kernel) (by decide +kernel)
theorem ml_X3_59 : Cond.methodLink RX3 59 yX3_holdIfLess ∈ tbU := tbm 404 (by decide +kernel) (by decide +kernel)
theorem ml_X3_62 : Cond.methodLink RX3 62 yJ9_abs_0f7a4 ∈ tbU := tbm 408 (by decide +kernel) (by decide +kernel)
theorem ml_X3_45 : Cond.methodLink RX3 45 yX3_divides ∈ tbU := tbm 411 (by decide +kernel) (by decide +kernel)
theorem ml_X3_74 : Cond.methodLink RX3 74 yX3_worth ∈ tbU := tbm 415 (by decide +kernel) (by decide +kernel)
theorem ml_X3_78 : Cond.methodLink RX3 78 yX0_says ∈ tbU := tbm 416 (by decide +kernel) (by decide +kernel)
theorem ml_X3_81 : Cond.methodLink RX3 81 yJ9_min_7cf53 ∈ tbU := tbm 417 (by decide +kernel) (by decide +kernel)
theorem ml_X3_84 : Cond.methodLink RX3 84 yJ9_max_7cf53 ∈ tbU := tbm 420 (by decide +kernel) (by decide +kernel)
theorem ml_X3_68 : Cond.methodLink RX3 68 yX4_copyRow ∈ tbU := tbm 423 (by decide +kernel) (by decide +kernel)
theorem ml_X4_51 : Cond.methodLink RX4 51 yJ9_min_7cf53 ∈ tbU := tbm 426 (by decide +kernel) (by decide +kernel)
theorem ml_X4_57 : Cond.methodLink RX4 57 arraycopyName ∈ tbU := tbm 427 (by decide +kernel) (by decide +kernel)
theorem ml_X9_129 : Cond.methodLink RX9 129 yX4_copyRow ∈ tbU := tbm 430 (by decide +kernel) (by decide +kernel)
theorem ml_L_44 : Cond.methodLink RL 44 yX9_turn ∈ tbU := tbm 431 (by decide +kernel) (by decide +kernel)
theorem ml_X9_134 : Cond.methodLink RX9 134 yX0_turned ∈ tbU := tbm 435 (by decide +kernel) (by decide +kernel)
theorem ml_L_48 : Cond.methodLink RL 48 yX9_exchange ∈ tbU := tbm 436 (by decide +kernel) (by decide +kernel)
theorem ml_X9_137 : Cond.methodLink RX9 137 yX0_changedAbout ∈ tbU := tbm 440 (by decide +kernel) (by decide +kernel)
theorem ml_X0_24 : Cond.methodLink RX0 24 yJ9_min_7cf53 ∈ tbU := tbm 443 (by decide +kernel) (by decide +kernel)
theorem ml_X0_29 : Cond.methodLink RX0 29 yJ9_max_7cf53 ∈ tbU := tbm 444 (by decide +kernel) (by decide +kernel)
theorem ml_L_52 : Cond.methodLink RL 52 yX9_keep ∈ tbU := tbm 445 (by decide +kernel) (by decide +kernel)
theorem ml_L_56 : Cond.methodLink RL 56 yX9_feed ∈ tbU := tbm 449 (by decide +kernel) (by decide +kernel)
theorem ml_X9_144 : Cond.methodLink RX9 144 yX5_append ∈ tbU := tbm 453 (by decide +kernel) (by decide +kernel)
theorem ml_L_60 : Cond.methodLink RL 60 yX9_read ∈ tbU := tbm 457 (by decide +kernel) (by decide +kernel)
theorem ml_X9_150 : Cond.methodLink RX9 150 yX5_parse ∈ tbU := tbm 461 (by decide +kernel) (by decide +kernel)
theorem ml_X5_32 : Cond.methodLink RX5 32 yX5_takeClause ∈ tbU := tbm 465 (by decide +kernel) (by decide +kernel)
theorem ml_X5_36 : Cond.methodLink RX5 36 yX5_sign ∈ tbU := tbm 469 (by decide +kernel) (by decide +kernel)
theorem ml_X5_40 : Cond.methodLink RX5 40 yX5_takeDigit ∈ tbU := tbm 473 (by decide +kernel) (by decide +kernel)
theorem ml_X5_51 : Cond.methodLink RX5 51 yX5_isDigit ∈ tbU := tbm 477 (by decide +kernel) (by decide +kernel)
theorem ml_X5_44 : Cond.methodLink RX5 44 yX5_takeLot ∈ tbU := tbm 481 (by decide +kernel) (by decide +kernel)
theorem ml_X5_48 : Cond.methodLink RX5 48 yX5_takeNumber ∈ tbU := tbm 485 (by decide +kernel) (by decide +kernel)
theorem ml_X9_165 : Cond.methodLink RX9 165 yX9_carryOut ∈ tbU := tbm 489 (by decide +kernel) (by decide +kernel)
theorem ml_X9_168 : Cond.methodLink RX9 168 yX9_voters ∈ tbU := tbm 493 (by decide +kernel) (by decide +kernel)
theorem ml_X9_171 : Cond.methodLink RX9 171 yX9_say ∈ tbU := tbm 494 (by decide +kernel) (by decide +kernel)
theorem ml_X9_174 : Cond.methodLink RX9 174 yX9_weight ∈ tbU := tbm 495 (by decide +kernel) (by decide +kernel)
theorem ml_X9_177 : Cond.methodLink RX9 177 yX9_quota ∈ tbU := tbm 496 (by decide +kernel) (by decide +kernel)
theorem ml_X9_179 : Cond.methodLink RX9 179 yX9_weigh ∈ tbU := tbm 497 (by decide +kernel) (by decide +kernel)
theorem ml_X9_182 : Cond.methodLink RX9 182 yX9_turn ∈ tbU := tbm 498 (by decide +kernel) (by decide +kernel)
theorem ml_X9_185 : Cond.methodLink RX9 185 yX9_exchange ∈ tbU := tbm 499 (by decide +kernel) (by decide +kernel)
theorem ml_X9_188 : Cond.methodLink RX9 188 yX9_keep ∈ tbU := tbm 500 (by decide +kernel) (by decide +kernel)
theorem ml_L_64 : Cond.methodLink RL 64 yX9_of ∈ tbU := tbm 501 (by decide +kernel) (by decide +kernel)
theorem ml_X9_191 : Cond.methodLink RX9 191 yX4_worthOf ∈ tbU := tbm 505 (by decide +kernel) (by decide +kernel)
theorem ml_L_68 : Cond.methodLink RL 68 yX9_told ∈ tbU := tbm 506 (by decide +kernel) (by decide +kernel)
theorem ml_X9_194 : Cond.methodLink RX9 194 yX0_isRising ∈ tbU := tbm 510 (by decide +kernel) (by decide +kernel)
theorem ml_X9_197 : Cond.methodLink RX9 197 yX9_oneIf ∈ tbU := tbm 513 (by decide +kernel) (by decide +kernel)
theorem ml_X9_201 : Cond.methodLink RX9 201 yX0_isOwnDual ∈ tbU := tbm 516 (by decide +kernel) (by decide +kernel)
theorem ml_X0_32 : Cond.methodLink RX0 32 yX0_dual ∈ tbU := tbm 519 (by decide +kernel) (by decide +kernel)
theorem ml_X9_204 : Cond.methodLink RX9 204 yX8_ofCode ∈ tbU := tbm 520 (by decide +kernel) (by decide +kernel)
theorem ml_X8_13 : Cond.methodLink RX8 13 yX8_key ∈ tbU := tbm 524 (by decide +kernel) (by decide +kernel)
theorem ml_X8_31 : Cond.methodLink RX8 31 yX0_with ∈ tbU := tbm 527 (by decide +kernel) (by decide +kernel)
theorem ml_X8_22 : Cond.methodLink RX8 22 yJ6_bitCount_0f7a4 ∈ tbU := tbm 530 (by decide +kernel) (by decide +kernel)
theorem ml_X8_17 : Cond.methodLink RX8 17 yX0_allYes ∈ tbU := tbm 536 (by decide +kernel) (by decide +kernel)
theorem ml_X8_27 : Cond.methodLink RX8 27 yX8_countKeys ∈ tbU := tbm 537 (by decide +kernel) (by decide +kernel)
theorem ml_X9_207 : Cond.methodLink RX9 207 yX0_leastOnes ∈ tbU := tbm 541 (by decide +kernel) (by decide +kernel)
theorem ml_X0_47 : Cond.methodLink RX0 47 yX0_says ∈ tbU := tbm 544 (by decide +kernel) (by decide +kernel)
theorem ml_X0_50 : Cond.methodLink RX0 50 yX0_hasYesWithin ∈ tbU := tbm 545 (by decide +kernel) (by decide +kernel)
theorem ml_X9_210 : Cond.methodLink RX9 210 yJ6_bitCount_0f7a4 ∈ tbU := tbm 548 (by decide +kernel) (by decide +kernel)
theorem ml_X9_215 : Cond.methodLink RX9 215 yX1_spread ∈ tbU := tbm 549 (by decide +kernel) (by decide +kernel)
theorem ml_X1_25 : Cond.methodLink RX1 25 yX1_forget ∈ tbU := tbm 553 (by decide +kernel) (by decide +kernel)
theorem ml_X1_28 : Cond.methodLink RX1 28 yX1_meet ∈ tbU := tbm 557 (by decide +kernel) (by decide +kernel)
theorem ml_X1_32 : Cond.methodLink RX1 32 yX1_meetAllBeside ∈ tbU := tbm 561 (by decide +kernel) (by decide +kernel)
theorem ml_X1_36 : Cond.methodLink RX1 36 yX0_turned ∈ tbU := tbm 565 (by decide +kernel) (by decide +kernel)
theorem ml_X1_42 : Cond.methodLink RX1 42 yX0_changedAbout ∈ tbU := tbm 566 (by decide +kernel) (by decide +kernel)
theorem ml_X1_46 : Cond.methodLink RX1 46 yX0_dual ∈ tbU := tbm 567 (by decide +kernel) (by decide +kernel)
theorem ml_X1_49 : Cond.methodLink RX1 49 yX0_opposite ∈ tbU := tbm 568 (by decide +kernel) (by decide +kernel)
theorem ml_X9_222 : Cond.methodLink RX9 222 yX1_stepsTo ∈ tbU := tbm 569 (by decide +kernel) (by decide +kernel)
theorem ml_L_72 : Cond.methodLink RL 72 yX9_weightOf ∈ tbU := tbm 573 (by decide +kernel) (by decide +kernel)
theorem ml_L_76 : Cond.methodLink RL 76 yX9_least ∈ tbU := tbm 577 (by decide +kernel) (by decide +kernel)
theorem ml_L_80 : Cond.methodLink RL 80 yX9_chow ∈ tbU := tbm 581 (by decide +kernel) (by decide +kernel)
theorem ml_X9_225 : Cond.methodLink RX9 225 yX0_with ∈ tbU := tbm 585 (by decide +kernel) (by decide +kernel)
theorem ml_L_84 : Cond.methodLink RL 84 yX9_trade ∈ tbU := tbm 586 (by decide +kernel) (by decide +kernel)
theorem ml_X9_228 : Cond.methodLink RX9 228 yX7_find ∈ tbU := tbm 590 (by decide +kernel) (by decide +kernel)
theorem ml_X7_17 : Cond.methodLink RX7 17 yX0_says ∈ tbU := tbm 594 (by decide +kernel) (by decide +kernel)
theorem ml_X7_23 : Cond.methodLink RX7 23 yX7_findFor ∈ tbU := tbm 595 (by decide +kernel) (by decide +kernel)
theorem ml_X7_27 : Cond.methodLink RX7 27 yX7_addTrade ∈ tbU := tbm 599 (by decide +kernel) (by decide +kernel)
theorem ml_L_88 : Cond.methodLink RL 88 yX9_leastLot ∈ tbU := tbm 603 (by decide +kernel) (by decide +kernel)
theorem ml_X9_237 : Cond.methodLink RX9 237 yX4_lots ∈ tbU := tbm 607 (by decide +kernel) (by decide +kernel)
theorem ml_L_92 : Cond.methodLink RL 92 yX9_swings ∈ tbU := tbm 608 (by decide +kernel) (by decide +kernel)
theorem ml_X9_240 : Cond.methodLink RX9 240 yX0_swingsOf ∈ tbU := tbm 612 (by decide +kernel) (by decide +kernel)
theorem ml_X0_38 : Cond.methodLink RX0 38 yJ6_bitCount_0f7a4 ∈ tbU := tbm 615 (by decide +kernel) (by decide +kernel)
theorem ml_X0_43 : Cond.methodLink RX0 43 yX0_winsBy ∈ tbU := tbm 616 (by decide +kernel) (by decide +kernel)
theorem ml_L_96 : Cond.methodLink RL 96 yX9_see ∈ tbU := tbm 617 (by decide +kernel) (by decide +kernel)
theorem ml_X9_247 : Cond.methodLink RX9 247 yX9_addSaying ∈ tbU := tbm 621 (by decide +kernel) (by decide +kernel)
theorem ml_X9_282 : Cond.methodLink RX9 282 yX2_append ∈ tbU := tbm 625 (by decide +kernel) (by decide +kernel)
theorem ml_L_100 : Cond.methodLink RL 100 yX9_fits ∈ tbU := tbm 629 (by decide +kernel) (by decide +kernel)
theorem ml_X9_251 : Cond.methodLink RX9 251 yX9_leastFit ∈ tbU := tbm 633 (by decide +kernel) (by decide +kernel)
theorem ml_X9_257 : Cond.methodLink RX9 257 yJ9_max_7cf53 ∈ tbU := tbm 637 (by decide +kernel) (by decide +kernel)
theorem ml_X9_254 : Cond.methodLink RX9 254 yX9_greatestFit ∈ tbU := tbm 638 (by decide +kernel) (by decide +kernel)
theorem ml_X9_267 : Cond.methodLink RX9 267 yJ9_min_7cf53 ∈ tbU := tbm 642 (by decide +kernel) (by decide +kernel)
theorem ml_L_104 : Cond.methodLink RL 104 yX9_odds ∈ tbU := tbm 643 (by decide +kernel) (by decide +kernel)
theorem ml_X9_272 : Cond.methodLink RX9 272 yX9_partOfFraction ∈ tbU := tbm 648 (by decide +kernel) (by decide +kernel)
theorem ml_L_109 : Cond.methodLink RL 109 yX9_mean ∈ tbU := tbm 651 (by decide +kernel) (by decide +kernel)
theorem ml_L_114 : Cond.methodLink RL 114 yX9_event ∈ tbU := tbm 655 (by decide +kernel) (by decide +kernel)
theorem ml_X9_279 : Cond.methodLink RX9 279 yX9_eventFinds ∈ tbU := tbm 659 (by decide +kernel) (by decide +kernel)
theorem ml_L_118 : Cond.methodLink RL 118 yX9_after ∈ tbU := tbm 663 (by decide +kernel) (by decide +kernel)
theorem ml_X9_284 : Cond.methodLink RX9 284 yX9_codeBehindEvents ∈ tbU := tbm 667 (by decide +kernel) (by decide +kernel)
theorem ml_X9_287 : Cond.methodLink RX9 287 yX9_codeBehind ∈ tbU := tbm 671 (by decide +kernel) (by decide +kernel)
theorem ml_L_122 : Cond.methodLink RL 122 yX9_book ∈ tbU := tbm 675 (by decide +kernel) (by decide +kernel)
theorem ml_L_126 : Cond.methodLink RL 126 yX9_looked ∈ tbU := tbm 679 (by decide +kernel) (by decide +kernel)
theorem ml_L_130 : Cond.methodLink RL 130 yX9_judge ∈ tbU := tbm 683 (by decide +kernel) (by decide +kernel)
theorem ml_X9_293 : Cond.methodLink RX9 293 yX9_isTape ∈ tbU := tbm 687 (by decide +kernel) (by decide +kernel)
theorem ml_X9_296 : Cond.methodLink RX9 296 yX6_holdsNothing ∈ tbU := tbm 690 (by decide +kernel) (by decide +kernel)
theorem ml_L_134 : Cond.methodLink RL 134 yX9_image ∈ tbU := tbm 694 (by decide +kernel) (by decide +kernel)
theorem ml_X9_308 : Cond.methodLink RX9 308 yX4_copyFrom ∈ tbU := tbm 698 (by decide +kernel) (by decide +kernel)
theorem ml_X4_43 : Cond.methodLink RX4 43 yX4_copyRow ∈ tbU := tbm 702 (by decide +kernel) (by decide +kernel)
theorem ml_X4_47 : Cond.methodLink RX4 47 yX2_copyFrom ∈ tbU := tbm 703 (by decide +kernel) (by decide +kernel)
theorem ml_X2_20 : Cond.methodLink RX2 20 yX4_copyRow ∈ tbU := tbm 707 (by decide +kernel) (by decide +kernel)
theorem ml_L_138 : Cond.methodLink RL 138 yX9_undo ∈ tbU := tbm 708 (by decide +kernel) (by decide +kernel)
theorem ml_L_142 : Cond.methodLink RL 142 yX9_count ∈ tbU := tbm 712 (by decide +kernel) (by decide +kernel)
theorem ml_L_146 : Cond.methodLink RL 146 yX9_tape ∈ tbU := tbm 716 (by decide +kernel) (by decide +kernel)
theorem ml_X9_312 : Cond.methodLink RX9 312 yX6_become ∈ tbU := tbm 720 (by decide +kernel) (by decide +kernel)
theorem ml_L_153 : Cond.methodLink RL 153 yX9_item ∈ tbU := tbm 724 (by decide +kernel) (by decide +kernel)
theorem ml_X9_315 : Cond.methodLink RX9 315 yX6_hasPlace ∈ tbU := tbm 728 (by decide +kernel) (by decide +kernel)
theorem ml_X9_318 : Cond.methodLink RX9 318 yX6_cut ∈ tbU := tbm 732 (by decide +kernel) (by decide +kernel)
theorem ml_L_158 : Cond.methodLink RL 158 yX9_peek ∈ tbU := tbm 736 (by decide +kernel) (by decide +kernel)
theorem ml_L_162 : Cond.methodLink RL 162 yX9_shift ∈ tbU := tbm 740 (by decide +kernel) (by decide +kernel)
theorem ml_X9_322 : Cond.methodLink RX9 322 yX6_hasStretch ∈ tbU := tbm 744 (by decide +kernel) (by decide +kernel)
theorem ml_X9_325 : Cond.methodLink RX9 325 arraycopyName ∈ tbU := tbm 748 (by decide +kernel) (by decide +kernel)
theorem ml_L_12 : Cond.methodLink RL 12 yX10_init ∈ tbU := tbm 751 (by decide +kernel) (by decide +kernel)
theorem ml_X10_52 : Cond.methodLink RX10 52 yX10_starts ∈ tbU := tbm 758 (by decide +kernel) (by decide +kernel)
theorem ml_L_17 : Cond.methodLink RL 17 yX10_voters ∈ tbU := tbm 817 (by decide +kernel) (by decide +kernel)
theorem ml_X10_60 : Cond.methodLink RX10 60 yX10_in ∈ tbU := tbm 823 (by decide +kernel) (by decide +kernel)
theorem ml_L_22 : Cond.methodLink RL 22 yX10_say ∈ tbU := tbm 826 (by decide +kernel) (by decide +kernel)
theorem ml_X10_68 : Cond.methodLink RX10 68 yX10_isLot ∈ tbU := tbm 830 (by decide +kernel) (by decide +kernel)
theorem ml_X10_56 : Cond.methodLink RX10 56 yX10_lots ∈ tbU := tbm 834 (by decide +kernel) (by decide +kernel)
theorem ml_L_26 : Cond.methodLink RL 26 yX10_code ∈ tbU := tbm 838 (by decide +kernel) (by decide +kernel)
theorem ml_X10_72 : Cond.methodLink RX10 72 yX10_most ∈ tbU := tbm 842 (by decide +kernel) (by decide +kernel)
theorem ml_L_30 : Cond.methodLink RL 30 yX10_weight ∈ tbU := tbm 846 (by decide +kernel) (by decide +kernel)
theorem ml_X10_75 : Cond.methodLink RX10 75 yX10_isVoter ∈ tbU := tbm 850 (by decide +kernel) (by decide +kernel)
theorem ml_L_34 : Cond.methodLink RL 34 yX10_quota ∈ tbU := tbm 856 (by decide +kernel) (by decide +kernel)
theorem ml_L_39 : Cond.methodLink RL 39 yX10_weigh ∈ tbU := tbm 862 (by decide +kernel) (by decide +kernel)
theorem ml_X10_94 : Cond.methodLink RX10 94 yX10_weighed ∈ tbU := tbm 866 (by decide +kernel) (by decide +kernel)
theorem ml_X10_86 : Cond.methodLink RX10 86 yX10_worth ∈ tbU := tbm 870 (by decide +kernel) (by decide +kernel)
theorem ml_X10_90 : Cond.methodLink RX10 90 yX10_bit ∈ tbU := tbm 874 (by decide +kernel) (by decide +kernel)
theorem ml_L_43 : Cond.methodLink RL 43 yX10_becomes ∈ tbU := tbm 877 (by decide +kernel) (by decide +kernel)
theorem ml_X10_101 : Cond.methodLink RX10 101 yX10_isLinear ∈ tbU := tbm 881 (by decide +kernel) (by decide +kernel)
theorem ml_X10_129 : Cond.methodLink RX10 129 yX10_tries ∈ tbU := tbm 885 (by decide +kernel) (by decide +kernel)
theorem ml_X10_126 : Cond.methodLink RX10 126 yX10_tells ∈ tbU := tbm 889 (by decide +kernel) (by decide +kernel)
theorem ml_X10_118 : Cond.methodLink RX10 118 yX10_worthBy ∈ tbU := tbm 893 (by decide +kernel) (by decide +kernel)
theorem ml_X10_97 : Cond.methodLink RX10 97 yX10_is ∈ tbU := tbm 897 (by decide +kernel) (by decide +kernel)
theorem ml_X10_104 : Cond.methodLink RX10 104 yX10_leastQuota ∈ tbU := tbm 900 (by decide +kernel) (by decide +kernel)
theorem ml_X10_107 : Cond.methodLink RX10 107 yX10_dual ∈ tbU := tbm 904 (by decide +kernel) (by decide +kernel)
theorem ml_L_47 : Cond.methodLink RL 47 yX10_turn ∈ tbU := tbm 908 (by decide +kernel) (by decide +kernel)
theorem ml_X10_110 : Cond.methodLink RX10 110 yX10_turned ∈ tbU := tbm 912 (by decide +kernel) (by decide +kernel)
theorem ml_L_51 : Cond.methodLink RL 51 yX10_exchange ∈ tbU := tbm 916 (by decide +kernel) (by decide +kernel)
theorem ml_X10_114 : Cond.methodLink RX10 114 yX10_changed ∈ tbU := tbm 920 (by decide +kernel) (by decide +kernel)
theorem ml_L_55 : Cond.methodLink RL 55 yX10_keep ∈ tbU := tbm 924 (by decide +kernel) (by decide +kernel)
theorem ml_L_75 : Cond.methodLink RL 75 yX10_weightOf ∈ tbU := tbm 928 (by decide +kernel) (by decide +kernel)
theorem ml_L_79 : Cond.methodLink RL 79 yX10_least ∈ tbU := tbm 932 (by decide +kernel) (by decide +kernel)
theorem ml_L_67 : Cond.methodLink RL 67 yX10_of ∈ tbU := tbm 936 (by decide +kernel) (by decide +kernel)
theorem ml_L_83 : Cond.methodLink RL 83 yX10_chow ∈ tbU := tbm 940 (by decide +kernel) (by decide +kernel)
theorem ml_X10_133 : Cond.methodLink RX10 133 yX10_chowOf ∈ tbU := tbm 944 (by decide +kernel) (by decide +kernel)
theorem ml_L_91 : Cond.methodLink RL 91 yX10_leastLot ∈ tbU := tbm 948 (by decide +kernel) (by decide +kernel)
theorem ml_X10_139 : Cond.methodLink RX10 139 yX10_nthLeast ∈ tbU := tbm 952 (by decide +kernel) (by decide +kernel)
theorem ml_X10_136 : Cond.methodLink RX10 136 yX10_isLeastLot ∈ tbU := tbm 956 (by decide +kernel) (by decide +kernel)
theorem ml_L_95 : Cond.methodLink RL 95 yX10_swings ∈ tbU := tbm 960 (by decide +kernel) (by decide +kernel)
theorem ml_L_71 : Cond.methodLink RL 71 yX10_told ∈ tbU := tbm 964 (by decide +kernel) (by decide +kernel)
theorem ml_X10_148 : Cond.methodLink RX10 148 yX10_isRising ∈ tbU := tbm 968 (by decide +kernel) (by decide +kernel)
theorem ml_X10_152 : Cond.methodLink RX10 152 yX10_twins ∈ tbU := tbm 972 (by decide +kernel) (by decide +kernel)
theorem ml_X10_145 : Cond.methodLink RX10 145 yX10_reached ∈ tbU := tbm 976 (by decide +kernel) (by decide +kernel)
theorem ml_X10_142 : Cond.methodLink RX10 142 yX10_moved ∈ tbU := tbm 980 (by decide +kernel) (by decide +kernel)
theorem ml_X10_155 : Cond.methodLink RX10 155 yX10_steps ∈ tbU := tbm 984 (by decide +kernel) (by decide +kernel)
theorem ml_L_87 : Cond.methodLink RL 87 yX10_trade ∈ tbU := tbm 988 (by decide +kernel) (by decide +kernel)
theorem ml_X10_158 : Cond.methodLink RX10 158 yX10_isTrade ∈ tbU := tbm 992 (by decide +kernel) (by decide +kernel)
theorem ml_L_99 : Cond.methodLink RL 99 yX10_see ∈ tbU := tbm 995 (by decide +kernel) (by decide +kernel)
theorem ml_L_103 : Cond.methodLink RL 103 yX10_fits ∈ tbU := tbm 999 (by decide +kernel) (by decide +kernel)
theorem ml_X10_162 : Cond.methodLink RX10 162 yX10_isSeenBy ∈ tbU := tbm 1003 (by decide +kernel) (by decide +kernel)
theorem ml_L_108 : Cond.methodLink RL 108 yX10_odds ∈ tbU := tbm 1007 (by decide +kernel) (by decide +kernel)
theorem ml_X10_165 : Cond.methodLink RX10 165 yX10_swings ∈ tbU := tbm 1011 (by decide +kernel) (by decide +kernel)
theorem ml_X10_168 : Cond.methodLink RX10 168 yX10_lowest ∈ tbU := tbm 1012 (by decide +kernel) (by decide +kernel)
theorem ml_L_113 : Cond.methodLink RL 113 yX10_mean ∈ tbU := tbm 1016 (by decide +kernel) (by decide +kernel)
theorem ml_L_117 : Cond.methodLink RL 117 yX10_event ∈ tbU := tbm 1020 (by decide +kernel) (by decide +kernel)
theorem ml_X10_176 : Cond.methodLink RX10 176 yX10_isThere ∈ tbU := tbm 1025 (by decide +kernel) (by decide +kernel)
theorem ml_L_121 : Cond.methodLink RL 121 yX10_after ∈ tbU := tbm 1029 (by decide +kernel) (by decide +kernel)
theorem ml_L_125 : Cond.methodLink RL 125 yX10_book ∈ tbU := tbm 1033 (by decide +kernel) (by decide +kernel)
theorem ml_L_129 : Cond.methodLink RL 129 yX10_looked ∈ tbU := tbm 1037 (by decide +kernel) (by decide +kernel)
theorem ml_L_59 : Cond.methodLink RL 59 yX10_feed ∈ tbU := tbm 1041 (by decide +kernel) (by decide +kernel)
theorem ml_L_63 : Cond.methodLink RL 63 yX10_read ∈ tbU := tbm 1046 (by decide +kernel) (by decide +kernel)
theorem ml_X10_187 : Cond.methodLink RX10 187 yX10_here ∈ tbU := tbm 1050 (by decide +kernel) (by decide +kernel)
theorem ml_X10_236 : Cond.methodLink RX10 236 yX10_hasClause ∈ tbU := tbm 1054 (by decide +kernel) (by decide +kernel)
theorem ml_X10_203 : Cond.methodLink RX10 203 yX10_takes ∈ tbU := tbm 1058 (by decide +kernel) (by decide +kernel)
theorem ml_X10_197 : Cond.methodLink RX10 197 yX10_isDigit ∈ tbU := tbm 1062 (by decide +kernel) (by decide +kernel)
theorem ml_X10_206 : Cond.methodLink RX10 206 yX10_hasNumber ∈ tbU := tbm 1068 (by decide +kernel) (by decide +kernel)
theorem ml_X10_239 : Cond.methodLink RX10 239 yX10_isDone ∈ tbU := tbm 1072 (by decide +kernel) (by decide +kernel)
theorem ml_X10_209 : Cond.methodLink RX10 209 yX10_voters ∈ tbU := tbm 1076 (by decide +kernel) (by decide +kernel)
theorem ml_X10_212 : Cond.methodLink RX10 212 yX10_say ∈ tbU := tbm 1077 (by decide +kernel) (by decide +kernel)
theorem ml_X10_215 : Cond.methodLink RX10 215 yX10_weight ∈ tbU := tbm 1078 (by decide +kernel) (by decide +kernel)
theorem ml_X10_218 : Cond.methodLink RX10 218 yX10_quota ∈ tbU := tbm 1079 (by decide +kernel) (by decide +kernel)
theorem ml_X10_221 : Cond.methodLink RX10 221 yX10_weigh ∈ tbU := tbm 1080 (by decide +kernel) (by decide +kernel)
theorem ml_X10_224 : Cond.methodLink RX10 224 yX10_becomes ∈ tbU := tbm 1081 (by decide +kernel) (by decide +kernel)
theorem ml_X10_227 : Cond.methodLink RX10 227 yX10_turn ∈ tbU := tbm 1082 (by decide +kernel) (by decide +kernel)
theorem ml_X10_230 : Cond.methodLink RX10 230 yX10_exchange ∈ tbU := tbm 1083 (by decide +kernel) (by decide +kernel)
theorem ml_X10_233 : Cond.methodLink RX10 233 yX10_keep ∈ tbU := tbm 1084 (by decide +kernel) (by decide +kernel)
theorem ml_L_133 : Cond.methodLink RL 133 yX10_judge ∈ tbU := tbm 1085 (by decide +kernel) (by decide +kernel)
theorem ml_X10_244 : Cond.methodLink RX10 244 yX10_isTape ∈ tbU := tbm 1089 (by decide +kernel) (by decide +kernel)
theorem ml_L_150 : Cond.methodLink RL 150 yX10_tape ∈ tbU := tbm 1093 (by decide +kernel) (by decide +kernel)
theorem ml_L_157 : Cond.methodLink RL 157 yX10_item ∈ tbU := tbm 1098 (by decide +kernel) (by decide +kernel)
theorem ml_L_161 : Cond.methodLink RL 161 yX10_peek ∈ tbU := tbm 1102 (by decide +kernel) (by decide +kernel)
theorem ml_L_166 : Cond.methodLink RL 166 yX10_shift ∈ tbU := tbm 1106 (by decide +kernel) (by decide +kernel)
theorem ml_L_137 : Cond.methodLink RL 137 yX10_image ∈ tbU := tbm 1110 (by decide +kernel) (by decide +kernel)
theorem ml_L_141 : Cond.methodLink RL 141 yX10_undo ∈ tbU := tbm 1114 (by decide +kernel) (by decide +kernel)
theorem ml_L_145 : Cond.methodLink RL 145 yX10_count ∈ tbU := tbm 1118 (by decide +kernel) (by decide +kernel)
theorem fl_X2_13 : FL RX2 13 1 0 := ⟨RX2, TX2, 3, tyX2, rfl, inU_X2, by decide, tbm 90 (by decide +kernel) (by decide +kernel), tyX2_ok, nmX2⟩
theorem fl_X9_265 : FL RX9 265 1 0 := ⟨RX2, TX2, 3, tyX2, rfl, inU_X2, by decide, tbm 91 (by decide +kernel) (by decide +kernel), tyX2_ok, nmX2⟩
theorem fl_X2_17 : FL RX2 17 1 1 := ⟨RX2, TX2, 3, tyX2, rfl, inU_X2, by decide, tbm 92 (by decide +kernel) (by decide +kernel), tyX2_ok, nmX2⟩
theorem fl_X9_266 : FL RX9 266 1 1 := ⟨RX2, TX2, 3, tyX2, rfl, inU_X2, by decide, tbm 93 (by decide +kernel) (by decide +kernel), tyX2_ok, nmX2⟩
theorem fl_X2_7 : FL RX2 7 1 2 := ⟨RX2, TX2, 3, tyX2, rfl, inU_X2, by decide, tbm 94 (by decide +kernel) (by decide +kernel), tyX2_ok, nmX2⟩
theorem fl_X9_262 : FL RX9 262 1 2 := ⟨RX2, TX2, 3, tyX2, rfl, inU_X2, by decide, tbm 95 (by decide +kernel) (by decide +kernel), tyX2_ok, nmX2⟩
theorem fl_X4_9 : FL RX4 9 3 0 := ⟨RX4, TX4, 8, tyX4, rfl, inU_X4, by decide, tbm 104 (by decide +kernel) (by decide +kernel), tyX4_ok, nmX4⟩
theorem fl_X9_67 : FL RX9 67 3 0 := ⟨RX4, TX4, 8, tyX4, rfl, inU_X4, by decide, tbm 105 (by decide +kernel) (by decide +kernel), tyX4_ok, nmX4⟩
theorem fl_X4_15 : FL RX4 15 3 1 := ⟨RX4, TX4, 8, tyX4, rfl, inU_X4, by decide, tbm 106 (by decide +kernel) (by decide +kernel), tyX4_ok, nmX4⟩
theorem fl_X9_82 : FL RX9 82 3 1 := ⟨RX4, TX4, 8, tyX4, rfl, inU_X4, by decide, tbm 107 (by decide +kernel) (by decide +kernel), tyX4_ok, nmX4⟩
theorem fl_X4_18 : FL RX4 18 3 2 := ⟨RX4, TX4, 8, tyX4, rfl, inU_X4, by decide, tbm 108 (by decide +kernel) (by decide +kernel), tyX4_ok, nmX4⟩
theorem fl_X9_141 : FL RX9 141 3 2 := ⟨RX4, TX4, 8, tyX4, rfl, inU_X4, by decide, tbm 109 (by decide +kernel) (by decide +kernel), tyX4_ok, nmX4⟩
theorem fl_X4_21 : FL RX4 21 3 3 := ⟨RX4, TX4, 8, tyX4, rfl, inU_X4, by decide, tbm 110 (by decide +kernel) (by decide +kernel), tyX4_ok, nmX4⟩
theorem fl_X9_101 : FL RX9 101 3 3 := ⟨RX4, TX4, 8, tyX4, rfl, inU_X4, by decide, tbm 111 (by decide +kernel) (by decide +kernel), tyX4_ok, nmX4⟩
theorem fl_X4_25 : FL RX4 25 3 4 := ⟨RX4, TX4, 8, tyX4, rfl, inU_X4, by decide, tbm 112 (by decide +kernel) (by decide +kernel), tyX4_ok, nmX4⟩
theorem fl_X9_105 : FL RX9 105 3 4 := ⟨RX4, TX4, 8, tyX4, rfl, inU_X4, by decide, tbm 113 (by decide +kernel) (by decide +kernel), tyX4_ok, nmX4⟩
theorem fl_X4_33 : FL RX4 33 3 5 := ⟨RX4, TX4, 8, tyX4, rfl, inU_X4, by decide, tbm 114 (by decide +kernel) (by decide +kernel), tyX4_ok, nmX4⟩
theorem fl_X9_243 : FL RX9 243 3 5 := ⟨RX4, TX4, 8, tyX4, rfl, inU_X4, by decide, tbm 115 (by decide +kernel) (by decide +kernel), tyX4_ok, nmX4⟩
theorem fl_X4_37 : FL RX4 37 3 6 := ⟨RX4, TX4, 8, tyX4, rfl, inU_X4, by decide, tbm 116 (by decide +kernel) (by decide +kernel), tyX4_ok, nmX4⟩
theorem fl_X9_276 : FL RX9 276 3 6 := ⟨RX4, TX4, 8, tyX4, rfl, inU_X4, by decide, tbm 117 (by decide +kernel) (by decide +kernel), tyX4_ok, nmX4⟩
theorem fl_X4_40 : FL RX4 40 3 7 := ⟨RX4, TX4, 8, tyX4, rfl, inU_X4, by decide, tbm 118 (by decide +kernel) (by decide +kernel), tyX4_ok, nmX4⟩
theorem fl_X9_290 : FL RX9 290 3 7 := ⟨RX4, TX4, 8, tyX4, rfl, inU_X4, by decide, tbm 119 (by decide +kernel) (by decide +kernel), tyX4_ok, nmX4⟩
theorem fl_X5_9 : FL RX5 9 4 0 := ⟨RX5, TX5, 7, tyX5, rfl, inU_X5, by decide, tbm 143 (by decide +kernel) (by decide +kernel), tyX5_ok, nmX5⟩
theorem fl_X5_13 : FL RX5 13 4 1 := ⟨RX5, TX5, 7, tyX5, rfl, inU_X5, by decide, tbm 144 (by decide +kernel) (by decide +kernel), tyX5_ok, nmX5⟩
theorem fl_X9_147 : FL RX9 147 4 1 := ⟨RX5, TX5, 7, tyX5, rfl, inU_X5, by decide, tbm 145 (by decide +kernel) (by decide +kernel), tyX5_ok, nmX5⟩
theorem fl_X5_17 : FL RX5 17 4 2 := ⟨RX5, TX5, 7, tyX5, rfl, inU_X5, by decide, tbm 146 (by decide +kernel) (by decide +kernel), tyX5_ok, nmX5⟩
theorem fl_X5_20 : FL RX5 20 4 3 := ⟨RX5, TX5, 7, tyX5, rfl, inU_X5, by decide, tbm 147 (by decide +kernel) (by decide +kernel), tyX5_ok, nmX5⟩
theorem fl_X9_156 : FL RX9 156 4 3 := ⟨RX5, TX5, 7, tyX5, rfl, inU_X5, by decide, tbm 148 (by decide +kernel) (by decide +kernel), tyX5_ok, nmX5⟩
theorem fl_X5_23 : FL RX5 23 4 4 := ⟨RX5, TX5, 7, tyX5, rfl, inU_X5, by decide, tbm 149 (by decide +kernel) (by decide +kernel), tyX5_ok, nmX5⟩
theorem fl_X9_159 : FL RX9 159 4 4 := ⟨RX5, TX5, 7, tyX5, rfl, inU_X5, by decide, tbm 150 (by decide +kernel) (by decide +kernel), tyX5_ok, nmX5⟩
theorem fl_X5_26 : FL RX5 26 4 5 := ⟨RX5, TX5, 7, tyX5, rfl, inU_X5, by decide, tbm 151 (by decide +kernel) (by decide +kernel), tyX5_ok, nmX5⟩
theorem fl_X9_162 : FL RX9 162 4 5 := ⟨RX5, TX5, 7, tyX5, rfl, inU_X5, by decide, tbm 152 (by decide +kernel) (by decide +kernel), tyX5_ok, nmX5⟩
theorem fl_X5_29 : FL RX5 29 4 6 := ⟨RX5, TX5, 7, tyX5, rfl, inU_X5, by decide, tbm 153 (by decide +kernel) (by decide +kernel), tyX5_ok, nmX5⟩
theorem fl_X9_153 : FL RX9 153 4 6 := ⟨RX5, TX5, 7, tyX5, rfl, inU_X5, by decide, tbm 154 (by decide +kernel) (by decide +kernel), tyX5_ok, nmX5⟩
theorem fl_X3_9 : FL RX3 9 2 0 := ⟨RX3, TX3, 8, tyX3, rfl, inU_X3, by decide, tbm 178 (by decide +kernel) (by decide +kernel), tyX3_ok, nmX3⟩
theorem fl_X9_128 : FL RX9 128 2 0 := ⟨RX3, TX3, 8, tyX3, rfl, inU_X3, by decide, tbm 179 (by decide +kernel) (by decide +kernel), tyX3_ok, nmX3⟩
theorem fl_X3_15 : FL RX3 15 2 1 := ⟨RX3, TX3, 8, tyX3, rfl, inU_X3, by decide, tbm 180 (by decide +kernel) (by decide +kernel), tyX3_ok, nmX3⟩
theorem fl_X9_133 : FL RX9 133 2 1 := ⟨RX3, TX3, 8, tyX3, rfl, inU_X3, by decide, tbm 181 (by decide +kernel) (by decide +kernel), tyX3_ok, nmX3⟩
theorem fl_X3_19 : FL RX3 19 2 2 := ⟨RX3, TX3, 8, tyX3, rfl, inU_X3, by decide, tbm 182 (by decide +kernel) (by decide +kernel), tyX3_ok, nmX3⟩
theorem fl_X3_22 : FL RX3 22 2 3 := ⟨RX3, TX3, 8, tyX3, rfl, inU_X3, by decide, tbm 183 (by decide +kernel) (by decide +kernel), tyX3_ok, nmX3⟩
theorem fl_X3_25 : FL RX3 25 2 4 := ⟨RX3, TX3, 8, tyX3, rfl, inU_X3, by decide, tbm 184 (by decide +kernel) (by decide +kernel), tyX3_ok, nmX3⟩
theorem fl_X3_28 : FL RX3 28 2 5 := ⟨RX3, TX3, 8, tyX3, rfl, inU_X3, by decide, tbm 185 (by decide +kernel) (by decide +kernel), tyX3_ok, nmX3⟩
theorem fl_X3_31 : FL RX3 31 2 6 := ⟨RX3, TX3, 8, tyX3, rfl, inU_X3, by decide, tbm 186 (by decide +kernel) (by decide +kernel), tyX3_ok, nmX3⟩
theorem fl_X3_34 : FL RX3 34 2 7 := ⟨RX3, TX3, 8, tyX3, rfl, inU_X3, by decide, tbm 187 (by decide +kernel) (by decide +kernel), tyX3_ok, nmX3⟩
theorem fl_X1_11 : FL RX1 11 0 0 := ⟨RX1, TX1, 4, tyX1, rfl, inU_X1, by decide, tbm 211 (by decide +kernel) (by decide +kernel), tyX1_ok, nmX1⟩
theorem fl_X1_15 : FL RX1 15 0 1 := ⟨RX1, TX1, 4, tyX1, rfl, inU_X1, by decide, tbm 212 (by decide +kernel) (by decide +kernel), tyX1_ok, nmX1⟩
theorem fl_X1_18 : FL RX1 18 0 2 := ⟨RX1, TX1, 4, tyX1, rfl, inU_X1, by decide, tbm 213 (by decide +kernel) (by decide +kernel), tyX1_ok, nmX1⟩
theorem fl_X1_21 : FL RX1 21 0 3 := ⟨RX1, TX1, 4, tyX1, rfl, inU_X1, by decide, tbm 214 (by decide +kernel) (by decide +kernel), tyX1_ok, nmX1⟩
theorem fl_X9_219 : FL RX9 219 0 3 := ⟨RX1, TX1, 4, tyX1, rfl, inU_X1, by decide, tbm 215 (by decide +kernel) (by decide +kernel), tyX1_ok, nmX1⟩
theorem fl_X7_7 : FL RX7 7 6 0 := ⟨RX7, TX7, 2, tyX7, rfl, inU_X7, by decide, tbm 231 (by decide +kernel) (by decide +kernel), tyX7_ok, nmX7⟩
theorem fl_X9_231 : FL RX9 231 6 0 := ⟨RX7, TX7, 2, tyX7, rfl, inU_X7, by decide, tbm 232 (by decide +kernel) (by decide +kernel), tyX7_ok, nmX7⟩
theorem fl_X7_13 : FL RX7 13 6 1 := ⟨RX7, TX7, 2, tyX7, rfl, inU_X7, by decide, tbm 233 (by decide +kernel) (by decide +kernel), tyX7_ok, nmX7⟩
theorem fl_X9_234 : FL RX9 234 6 1 := ⟨RX7, TX7, 2, tyX7, rfl, inU_X7, by decide, tbm 234 (by decide +kernel) (by decide +kernel), tyX7_ok, nmX7⟩
theorem fl_X8_9 : FL RX8 9 7 0 := ⟨RX8, TX8, 1, tyX8, rfl, inU_X8, by decide, tbm 246 (by decide +kernel) (by decide +kernel), tyX8_ok, nmX8⟩
theorem fl_X6_9 : FL RX6 9 5 0 := ⟨RX6, TX6, 3, tyX6, rfl, inU_X6, by decide, tbm 255 (by decide +kernel) (by decide +kernel), tyX6_ok, nmX6⟩
theorem fl_X9_300 : FL RX9 300 5 0 := ⟨RX6, TX6, 3, tyX6, rfl, inU_X6, by decide, tbm 256 (by decide +kernel) (by decide +kernel), tyX6_ok, nmX6⟩
theorem fl_X6_13 : FL RX6 13 5 1 := ⟨RX6, TX6, 3, tyX6, rfl, inU_X6, by decide, tbm 257 (by decide +kernel) (by decide +kernel), tyX6_ok, nmX6⟩
theorem fl_X9_303 : FL RX9 303 5 1 := ⟨RX6, TX6, 3, tyX6, rfl, inU_X6, by decide, tbm 258 (by decide +kernel) (by decide +kernel), tyX6_ok, nmX6⟩
theorem fl_X6_16 : FL RX6 16 5 2 := ⟨RX6, TX6, 3, tyX6, rfl, inU_X6, by decide, tbm 259 (by decide +kernel) (by decide +kernel), tyX6_ok, nmX6⟩
theorem fl_X9_304 : FL RX9 304 5 2 := ⟨RX6, TX6, 3, tyX6, rfl, inU_X6, by decide, tbm 260 (by decide +kernel) (by decide +kernel), tyX6_ok, nmX6⟩
theorem fl_X9_12 : FL RX9 12 8 0 := ⟨RX9, TX9, 9, tyX9, rfl, inU_X9, by decide, tbm 269 (by decide +kernel) (by decide +kernel), tyX9_ok, nmX9⟩
theorem fl_X9_18 : FL RX9 18 8 1 := ⟨RX9, TX9, 9, tyX9, rfl, inU_X9, by decide, tbm 270 (by decide +kernel) (by decide +kernel), tyX9_ok, nmX9⟩
theorem fl_X9_21 : FL RX9 21 8 2 := ⟨RX9, TX9, 9, tyX9, rfl, inU_X9, by decide, tbm 271 (by decide +kernel) (by decide +kernel), tyX9_ok, nmX9⟩
theorem fl_X9_28 : FL RX9 28 8 3 := ⟨RX9, TX9, 9, tyX9, rfl, inU_X9, by decide, tbm 272 (by decide +kernel) (by decide +kernel), tyX9_ok, nmX9⟩
theorem fl_X9_34 : FL RX9 34 8 4 := ⟨RX9, TX9, 9, tyX9, rfl, inU_X9, by decide, tbm 273 (by decide +kernel) (by decide +kernel), tyX9_ok, nmX9⟩
theorem fl_X9_41 : FL RX9 41 8 5 := ⟨RX9, TX9, 9, tyX9, rfl, inU_X9, by decide, tbm 274 (by decide +kernel) (by decide +kernel), tyX9_ok, nmX9⟩
theorem fl_X9_48 : FL RX9 48 8 6 := ⟨RX9, TX9, 9, tyX9, rfl, inU_X9, by decide, tbm 275 (by decide +kernel) (by decide +kernel), tyX9_ok, nmX9⟩
theorem fl_X9_55 : FL RX9 55 8 7 := ⟨RX9, TX9, 9, tyX9, rfl, inU_X9, by decide, tbm 276 (by decide +kernel) (by decide +kernel), tyX9_ok, nmX9⟩
theorem fl_X9_62 : FL RX9 62 8 8 := ⟨RX9, TX9, 9, tyX9, rfl, inU_X9, by decide, tbm 277 (by decide +kernel) (by decide +kernel), tyX9_ok, nmX9⟩
theorem wl_X0_7 : Cond.fieldLink RX0 7 "WeighedLots$Lots" "WITH" "[I" ∈ tbU := tbm 374 (by decide +kernel) (by decide +kernel)
theorem fl_X10_11 : FL RX10 11 9 0 := ⟨RX10, TX10, 18, tyX10, rfl, inU_X10, by decide, tbm 762 (by decide +kernel) (by decide +kernel), tyX10_ok, nmX10⟩
theorem fl_X10_15 : FL RX10 15 9 1 := ⟨RX10, TX10, 18, tyX10, rfl, inU_X10, by decide, tbm 763 (by decide +kernel) (by decide +kernel), tyX10_ok, nmX10⟩
theorem fl_X10_249 : FL RX10 249 9 2 := ⟨RX10, TX10, 18, tyX10, rfl, inU_X10, by decide, tbm 764 (by decide +kernel) (by decide +kernel), tyX10_ok, nmX10⟩
theorem fl_X10_18 : FL RX10 18 9 3 := ⟨RX10, TX10, 18, tyX10, rfl, inU_X10, by decide, tbm 765 (by decide +kernel) (by decide +kernel), tyX10_ok, nmX10⟩
theorem fl_X10_21 : FL RX10 21 9 4 := ⟨RX10, TX10, 18, tyX10, rfl, inU_X10, by decide, tbm 766 (by decide +kernel) (by decide +kernel), tyX10_ok, nmX10⟩
theorem fl_X10_122 : FL RX10 122 9 5 := ⟨RX10, TX10, 18, tyX10, rfl, inU_X10, by decide, tbm 767 (by decide +kernel) (by decide +kernel), tyX10_ok, nmX10⟩
theorem fl_X10_25 : FL RX10 25 9 6 := ⟨RX10, TX10, 18, tyX10, rfl, inU_X10, by decide, tbm 768 (by decide +kernel) (by decide +kernel), tyX10_ok, nmX10⟩
theorem fl_X10_28 : FL RX10 28 9 7 := ⟨RX10, TX10, 18, tyX10, rfl, inU_X10, by decide, tbm 769 (by decide +kernel) (by decide +kernel), tyX10_ok, nmX10⟩
theorem fl_X10_31 : FL RX10 31 9 8 := ⟨RX10, TX10, 18, tyX10, rfl, inU_X10, by decide, tbm 770 (by decide +kernel) (by decide +kernel), tyX10_ok, nmX10⟩
theorem fl_X10_181 : FL RX10 181 9 9 := ⟨RX10, TX10, 18, tyX10, rfl, inU_X10, by decide, tbm 771 (by decide +kernel) (by decide +kernel), tyX10_ok, nmX10⟩
theorem fl_X10_184 : FL RX10 184 9 10 := ⟨RX10, TX10, 18, tyX10, rfl, inU_X10, by decide, tbm 772 (by decide +kernel) (by decide +kernel), tyX10_ok, nmX10⟩
theorem fl_X10_34 : FL RX10 34 9 11 := ⟨RX10, TX10, 18, tyX10, rfl, inU_X10, by decide, tbm 773 (by decide +kernel) (by decide +kernel), tyX10_ok, nmX10⟩
theorem fl_X10_194 : FL RX10 194 9 12 := ⟨RX10, TX10, 18, tyX10, rfl, inU_X10, by decide, tbm 774 (by decide +kernel) (by decide +kernel), tyX10_ok, nmX10⟩
theorem fl_X10_200 : FL RX10 200 9 13 := ⟨RX10, TX10, 18, tyX10, rfl, inU_X10, by decide, tbm 775 (by decide +kernel) (by decide +kernel), tyX10_ok, nmX10⟩
theorem fl_X10_37 : FL RX10 37 9 14 := ⟨RX10, TX10, 18, tyX10, rfl, inU_X10, by decide, tbm 776 (by decide +kernel) (by decide +kernel), tyX10_ok, nmX10⟩
theorem fl_X10_40 : FL RX10 40 9 15 := ⟨RX10, TX10, 18, tyX10, rfl, inU_X10, by decide, tbm 777 (by decide +kernel) (by decide +kernel), tyX10_ok, nmX10⟩
theorem fl_X10_45 : FL RX10 45 9 16 := ⟨RX10, TX10, 18, tyX10, rfl, inU_X10, by decide, tbm 778 (by decide +kernel) (by decide +kernel), tyX10_ok, nmX10⟩
theorem fl_X10_48 : FL RX10 48 9 17 := ⟨RX10, TX10, 18, tyX10, rfl, inU_X10, by decide, tbm 779 (by decide +kernel) (by decide +kernel), tyX10_ok, nmX10⟩
theorem fw_0_3 : FW 0 3 .int := fun C T N h => by
  have e : some (RX1, TX1, 4) = some (C, T, N) := h
  cases e
  exact ⟨rfl, tyX1_ok 3 (by decide)⟩
theorem fw_1_2 : FW 1 2 .int := fun C T N h => by
  have e : some (RX2, TX2, 3) = some (C, T, N) := h
  cases e
  exact ⟨rfl, tyX2_ok 2 (by decide)⟩
theorem fw_2_1 : FW 2 1 .int := fun C T N h => by
  have e : some (RX3, TX3, 8) = some (C, T, N) := h
  cases e
  exact ⟨rfl, tyX3_ok 1 (by decide)⟩
theorem fw_2_5 : FW 2 5 .int := fun C T N h => by
  have e : some (RX3, TX3, 8) = some (C, T, N) := h
  cases e
  exact ⟨rfl, tyX3_ok 5 (by decide)⟩
theorem fw_2_6 : FW 2 6 .int := fun C T N h => by
  have e : some (RX3, TX3, 8) = some (C, T, N) := h
  cases e
  exact ⟨rfl, tyX3_ok 6 (by decide)⟩
theorem fw_2_7 : FW 2 7 .int := fun C T N h => by
  have e : some (RX3, TX3, 8) = some (C, T, N) := h
  cases e
  exact ⟨rfl, tyX3_ok 7 (by decide)⟩
theorem fw_3_0 : FW 3 0 .int := fun C T N h => by
  have e : some (RX4, TX4, 8) = some (C, T, N) := h
  cases e
  exact ⟨rfl, tyX4_ok 0 (by decide)⟩
theorem fw_3_1 : FW 3 1 .int := fun C T N h => by
  have e : some (RX4, TX4, 8) = some (C, T, N) := h
  cases e
  exact ⟨rfl, tyX4_ok 1 (by decide)⟩
theorem fw_3_2 : FW 3 2 .int := fun C T N h => by
  have e : some (RX4, TX4, 8) = some (C, T, N) := h
  cases e
  exact ⟨rfl, tyX4_ok 2 (by decide)⟩
theorem fw_3_4 : FW 3 4 .int := fun C T N h => by
  have e : some (RX4, TX4, 8) = some (C, T, N) := h
  cases e
  exact ⟨rfl, tyX4_ok 4 (by decide)⟩
theorem fw_4_1 : FW 4 1 .int := fun C T N h => by
  have e : some (RX5, TX5, 7) = some (C, T, N) := h
  cases e
  exact ⟨rfl, tyX5_ok 1 (by decide)⟩
theorem fw_4_2 : FW 4 2 .int := fun C T N h => by
  have e : some (RX5, TX5, 7) = some (C, T, N) := h
  cases e
  exact ⟨rfl, tyX5_ok 2 (by decide)⟩
theorem fw_4_6 : FW 4 6 .int := fun C T N h => by
  have e : some (RX5, TX5, 7) = some (C, T, N) := h
  cases e
  exact ⟨rfl, tyX5_ok 6 (by decide)⟩
theorem fw_5_0 : FW 5 0 .int := fun C T N h => by
  have e : some (RX6, TX6, 3) = some (C, T, N) := h
  cases e
  exact ⟨rfl, tyX6_ok 0 (by decide)⟩
theorem fw_5_1 : FW 5 1 .int := fun C T N h => by
  have e : some (RX6, TX6, 3) = some (C, T, N) := h
  cases e
  exact ⟨rfl, tyX6_ok 1 (by decide)⟩
theorem fw_6_0 : FW 6 0 .int := fun C T N h => by
  have e : some (RX7, TX7, 2) = some (C, T, N) := h
  cases e
  exact ⟨rfl, tyX7_ok 0 (by decide)⟩
theorem fw_8_2 : FW 8 2 .boolean := fun C T N h => by
  have e : some (RX9, TX9, 9) = some (C, T, N) := h
  cases e
  exact ⟨rfl, tyX9_ok 2 (by decide)⟩
theorem fw_9_2 : FW 9 2 .boolean := fun C T N h => by
  have e : some (RX10, TX10, 18) = some (C, T, N) := h
  cases e
  exact ⟨rfl, tyX10_ok 2 (by decide)⟩
theorem fw_9_5 : FW 9 5 .int := fun C T N h => by
  have e : some (RX10, TX10, 18) = some (C, T, N) := h
  cases e
  exact ⟨rfl, tyX10_ok 5 (by decide)⟩
theorem fw_9_9 : FW 9 9 .int := fun C T N h => by
  have e : some (RX10, TX10, 18) = some (C, T, N) := h
  cases e
  exact ⟨rfl, tyX10_ok 9 (by decide)⟩
theorem fw_9_10 : FW 9 10 .int := fun C T N h => by
  have e : some (RX10, TX10, 18) = some (C, T, N) := h
  cases e
  exact ⟨rfl, tyX10_ok 10 (by decide)⟩
theorem fw_9_12 : FW 9 12 .int := fun C T N h => by
  have e : some (RX10, TX10, 18) = some (C, T, N) := h
  cases e
  exact ⟨rfl, tyX10_ok 12 (by decide)⟩
theorem fw_9_13 : FW 9 13 .int := fun C T N h => by
  have e : some (RX10, TX10, 18) = some (C, T, N) := h
  cases e
  exact ⟨rfl, tyX10_ok 13 (by decide)⟩
theorem kc_J6_265 : Cond.constant RJ6 265 (1431655765) ∈ tbU := tbm 533 (by decide +kernel) (by decide +kernel)
theorem kc_J6_266 : Cond.constant RJ6 266 (858993459) ∈ tbU := tbm 534 (by decide +kernel) (by decide +kernel)
theorem kc_J6_267 : Cond.constant RJ6 267 (252645135) ∈ tbU := tbm 535 (by decide +kernel) (by decide +kernel)
theorem kc_X10_24 : Cond.constant RX10 24 (65536) ∈ tbU := tbm 755 (by decide +kernel) (by decide +kernel)
theorem kl_X9_270 : Cond.constantLong RX9 270 (-9223372036854775808) ∈ tbU := tbm 647 (by decide +kernel) (by decide +kernel)
theorem kl_X10_64 : Cond.constantLong RX10 64 (2) ∈ tbU := tbm 821 (by decide +kernel) (by decide +kernel)
theorem kl_X10_66 : Cond.constantLong RX10 66 (4) ∈ tbU := tbm 822 (by decide +kernel) (by decide +kernel)
theorem kl_X10_78 : Cond.constantLong RX10 78 (-9) ∈ tbU := tbm 854 (by decide +kernel) (by decide +kernel)
theorem kl_X10_80 : Cond.constantLong RX10 80 (9) ∈ tbU := tbm 855 (by decide +kernel) (by decide +kernel)
theorem kl_X10_82 : Cond.constantLong RX10 82 (-40) ∈ tbU := tbm 860 (by decide +kernel) (by decide +kernel)
theorem kl_X10_84 : Cond.constantLong RX10 84 (40) ∈ tbU := tbm 861 (by decide +kernel) (by decide +kernel)
theorem kl_X10_172 : Cond.constantLong RX10 172 (-9223372036854775808) ∈ tbU := tbm 1015 (by decide +kernel) (by decide +kernel)
theorem kl_X10_174 : Cond.constantLong RX10 174 (3) ∈ tbU := tbm 1024 (by decide +kernel) (by decide +kernel)
theorem kl_X10_179 : Cond.constantLong RX10 179 (127) ∈ tbU := tbm 1045 (by decide +kernel) (by decide +kernel)
theorem kl_X10_190 : Cond.constantLong RX10 190 (48) ∈ tbU := tbm 1066 (by decide +kernel) (by decide +kernel)
theorem kl_X10_192 : Cond.constantLong RX10 192 (57) ∈ tbU := tbm 1067 (by decide +kernel) (by decide +kernel)
theorem kl_X10_242 : Cond.constantLong RX10 242 (5) ∈ tbU := tbm 1092 (by decide +kernel) (by decide +kernel)
theorem kl_X10_247 : Cond.constantLong RX10 247 (-1) ∈ tbU := tbm 1097 (by decide +kernel) (by decide +kernel)
theorem kl_L_151 : Cond.constantLong RL 151 (4294967295) ∈ tbU := tbm 1122 (by decide +kernel) (by decide +kernel)
