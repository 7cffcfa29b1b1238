theorem wd_0 : Cond.selects RX6 yX6_refuse yX6_refuse ∈ gx_T := gx_in (List.mem_of_getElem? (i := 0) (by decide +kernel)) (by decide +kernel)
theorem wd_1 : Cond.selects RX6 yX6_rowTrouble yX6_rowTrouble ∈ gx_T := gx_in (List.mem_of_getElem? (i := 1) (by decide +kernel)) (by decide +kernel)
theorem wd_2 : Cond.selects RX6 yX6_ruleTrouble yX6_ruleTrouble ∈ gx_T := gx_in (List.mem_of_getElem? (i := 2) (by decide +kernel)) (by decide +kernel)
theorem wd_4 : Cond.selects RX6 yX6_isRoad yX6_isRoad ∈ gx_T := gx_in (List.mem_of_getElem? (i := 4) (by decide +kernel)) (by decide +kernel)
theorem wd_18 : Cond.selects RX6 yX6_isOne yX6_isOne ∈ gx_T := gx_in (List.mem_of_getElem? (i := 18) (by decide +kernel)) (by decide +kernel)
theorem wd_24 : Cond.selects RX6 yX6_filledShelves yX6_filledShelves ∈ gx_T := gx_in (List.mem_of_getElem? (i := 24) (by decide +kernel)) (by decide +kernel)
theorem wd_83 : Cond.initialized RJ6 ∈ gx_T := gx_in (List.mem_of_getElem? (i := 83) (by decide +kernel)) (by decide +kernel)
theorem wd_140 : Cond.fieldLink RX6 216 "EachRoadOnce$Land" "year" "I" ∈ gx_T := gx_in (List.mem_of_getElem? (i := 140) (by decide +kernel)) (by decide +kernel)
theorem wd_143 : Cond.fieldLink RX6 152 "EachRoadOnce$Land" "anew" "I" ∈ gx_T := gx_in (List.mem_of_getElem? (i := 143) (by decide +kernel)) (by decide +kernel)
theorem wd_145 : Cond.fieldLink RX6 299 "EachRoadOnce$Land" "seed" "I" ∈ gx_T := gx_in (List.mem_of_getElem? (i := 145) (by decide +kernel)) (by decide +kernel)
theorem wd_148 : Cond.fieldLink RX6 146 "EachRoadOnce$Land" "shutRoads" "I" ∈ gx_T := gx_in (List.mem_of_getElem? (i := 148) (by decide +kernel)) (by decide +kernel)
theorem wd_197 : Cond.fieldLink RX6 155 "EachRoadOnce$Tape" "size" "I" ∈ gx_T := gx_in (List.mem_of_getElem? (i := 197) (by decide +kernel)) (by decide +kernel)
theorem wd_199 : Cond.fieldLink RX6 167 "EachRoadOnce$Tape" "fault" "I" ∈ gx_T := gx_in (List.mem_of_getElem? (i := 199) (by decide +kernel)) (by decide +kernel)
theorem wd_260 : Cond.fieldLink RX6 102 "EachRoadOnce$Shelf" "content" "I" ∈ gx_T := gx_in (List.mem_of_getElem? (i := 260) (by decide +kernel)) (by decide +kernel)
theorem wd_272 : Cond.fieldLink RX6 16 "EachRoadOnce" "kept" "LEachRoadOnce$Land;" ∈ gx_T := gx_in (List.mem_of_getElem? (i := 272) (by decide +kernel)) (by decide +kernel)
theorem wd_273 : Cond.fieldLink RX6 19 "EachRoadOnce" "trial" "LEachRoadOnce$Land;" ∈ gx_T := gx_in (List.mem_of_getElem? (i := 273) (by decide +kernel)) (by decide +kernel)
theorem wd_274 : Cond.fieldLink RX6 25 "EachRoadOnce" "tape" "LEachRoadOnce$Tape;" ∈ gx_T := gx_in (List.mem_of_getElem? (i := 274) (by decide +kernel)) (by decide +kernel)
theorem wd_280 : Cond.fieldLink RX6 302 "EachRoadOnce" "hasKept" "Z" ∈ gx_T := gx_in (List.mem_of_getElem? (i := 280) (by decide +kernel)) (by decide +kernel)
theorem wd_306 : Cond.methodLink RX6 53 yX6_isShelf ∈ gx_T := gx_in (List.mem_of_getElem? (i := 306) (by decide +kernel)) (by decide +kernel)
theorem wd_307 : Cond.static yX6_isShelf ∈ gx_T := gx_in (List.mem_of_getElem? (i := 307) (by decide +kernel)) (by decide +kernel)
theorem wd_308 : Cond.code yX6_isShelf cX6_isShelf 1 (some .boolean) ∈ gx_T := gx_in (List.mem_of_getElem? (i := 308) (by decide +kernel)) (by decide +kernel)
theorem wd_312 : Cond.methodLink RX6 61 yX6_refuse ∈ gx_T := gx_in (List.mem_of_getElem? (i := 312) (by decide +kernel)) (by decide +kernel)
theorem wd_314 : Cond.instanceMethod yX6_refuse ∈ gx_T := gx_in (List.mem_of_getElem? (i := 314) (by decide +kernel)) (by decide +kernel)
theorem wd_315 : Cond.code yX6_refuse cX6_refuse 2 (some .int) ∈ gx_T := gx_in (List.mem_of_getElem? (i := 315) (by decide +kernel)) (by decide +kernel)
theorem wd_316 : Cond.methodLink RX6 65 yX3_becomeRow ∈ gx_T := gx_in (List.mem_of_getElem? (i := 316) (by decide +kernel)) (by decide +kernel)
theorem wd_317 : Cond.instanceMethod yX3_becomeRow ∈ gx_T := gx_in (List.mem_of_getElem? (i := 317) (by decide +kernel)) (by decide +kernel)
theorem wd_318 : Cond.selects RX3 yX3_becomeRow yX3_becomeRow ∈ gx_T := gx_in (List.mem_of_getElem? (i := 318) (by decide +kernel)) (by decide +kernel)
theorem wd_319 : Cond.code yX3_becomeRow cX3_becomeRow 3 none ∈ gx_T := gx_in (List.mem_of_getElem? (i := 319) (by decide +kernel)) (by decide +kernel)
theorem wd_327 : Cond.methodLink RX6 69 yX6_rowTrouble ∈ gx_T := gx_in (List.mem_of_getElem? (i := 327) (by decide +kernel)) (by decide +kernel)
theorem wd_329 : Cond.instanceMethod yX6_rowTrouble ∈ gx_T := gx_in (List.mem_of_getElem? (i := 329) (by decide +kernel)) (by decide +kernel)
theorem wd_330 : Cond.code yX6_rowTrouble cX6_rowTrouble 2 (some .int) ∈ gx_T := gx_in (List.mem_of_getElem? (i := 330) (by decide +kernel)) (by decide +kernel)
theorem wd_347 : Cond.methodLink RX6 80 yX6_copyTrouble ∈ gx_T := gx_in (List.mem_of_getElem? (i := 347) (by decide +kernel)) (by decide +kernel)
theorem wd_348 : Cond.static yX6_copyTrouble ∈ gx_T := gx_in (List.mem_of_getElem? (i := 348) (by decide +kernel)) (by decide +kernel)
theorem wd_349 : Cond.code yX6_copyTrouble cX6_copyTrouble 2 (some .int) ∈ gx_T := gx_in (List.mem_of_getElem? (i := 349) (by decide +kernel)) (by decide +kernel)
theorem wd_373 : Cond.methodLink RX6 107 yX3_becomeRule ∈ gx_T := gx_in (List.mem_of_getElem? (i := 373) (by decide +kernel)) (by decide +kernel)
theorem wd_374 : Cond.instanceMethod yX3_becomeRule ∈ gx_T := gx_in (List.mem_of_getElem? (i := 374) (by decide +kernel)) (by decide +kernel)
theorem wd_375 : Cond.selects RX3 yX3_becomeRule yX3_becomeRule ∈ gx_T := gx_in (List.mem_of_getElem? (i := 375) (by decide +kernel)) (by decide +kernel)
theorem wd_376 : Cond.code yX3_becomeRule cX3_becomeRule 3 none ∈ gx_T := gx_in (List.mem_of_getElem? (i := 376) (by decide +kernel)) (by decide +kernel)
theorem wd_381 : Cond.methodLink RX6 110 yX6_ruleTrouble ∈ gx_T := gx_in (List.mem_of_getElem? (i := 381) (by decide +kernel)) (by decide +kernel)
theorem wd_383 : Cond.instanceMethod yX6_ruleTrouble ∈ gx_T := gx_in (List.mem_of_getElem? (i := 383) (by decide +kernel)) (by decide +kernel)
theorem wd_384 : Cond.code yX6_ruleTrouble cX6_ruleTrouble 2 (some .int) ∈ gx_T := gx_in (List.mem_of_getElem? (i := 384) (by decide +kernel)) (by decide +kernel)
theorem wd_461 : Cond.methodLink RX6 130 yX6_isPlace ∈ gx_T := gx_in (List.mem_of_getElem? (i := 461) (by decide +kernel)) (by decide +kernel)
theorem wd_462 : Cond.static yX6_isPlace ∈ gx_T := gx_in (List.mem_of_getElem? (i := 462) (by decide +kernel)) (by decide +kernel)
theorem wd_463 : Cond.code yX6_isPlace cX6_isPlace 1 (some .boolean) ∈ gx_T := gx_in (List.mem_of_getElem? (i := 463) (by decide +kernel)) (by decide +kernel)
theorem wd_464 : Cond.methodLink RX6 136 yX1_build ∈ gx_T := gx_in (List.mem_of_getElem? (i := 464) (by decide +kernel)) (by decide +kernel)
theorem wd_465 : Cond.instanceMethod yX1_build ∈ gx_T := gx_in (List.mem_of_getElem? (i := 465) (by decide +kernel)) (by decide +kernel)
theorem wd_466 : Cond.selects RX1 yX1_build yX1_build ∈ gx_T := gx_in (List.mem_of_getElem? (i := 466) (by decide +kernel)) (by decide +kernel)
theorem wd_467 : Cond.code yX1_build cX1_build 6 (some .int) ∈ gx_T := gx_in (List.mem_of_getElem? (i := 467) (by decide +kernel)) (by decide +kernel)
theorem wd_472 : Cond.methodLink RX6 140 yX1_settle ∈ gx_T := gx_in (List.mem_of_getElem? (i := 472) (by decide +kernel)) (by decide +kernel)
theorem wd_473 : Cond.instanceMethod yX1_settle ∈ gx_T := gx_in (List.mem_of_getElem? (i := 473) (by decide +kernel)) (by decide +kernel)
theorem wd_474 : Cond.selects RX1 yX1_settle yX1_settle ∈ gx_T := gx_in (List.mem_of_getElem? (i := 474) (by decide +kernel)) (by decide +kernel)
theorem wd_475 : Cond.code yX1_settle cX1_settle 3 (some .int) ∈ gx_T := gx_in (List.mem_of_getElem? (i := 475) (by decide +kernel)) (by decide +kernel)
theorem wd_484 : Cond.methodLink RX6 143 yX6_isRoad ∈ gx_T := gx_in (List.mem_of_getElem? (i := 484) (by decide +kernel)) (by decide +kernel)
theorem wd_486 : Cond.instanceMethod yX6_isRoad ∈ gx_T := gx_in (List.mem_of_getElem? (i := 486) (by decide +kernel)) (by decide +kernel)
theorem wd_487 : Cond.code yX6_isRoad cX6_isRoad 2 (some .boolean) ∈ gx_T := gx_in (List.mem_of_getElem? (i := 487) (by decide +kernel)) (by decide +kernel)
theorem wd_497 : Cond.methodLink RX6 156 yX4_append ∈ gx_T := gx_in (List.mem_of_getElem? (i := 497) (by decide +kernel)) (by decide +kernel)
theorem wd_498 : Cond.instanceMethod yX4_append ∈ gx_T := gx_in (List.mem_of_getElem? (i := 498) (by decide +kernel)) (by decide +kernel)
theorem wd_499 : Cond.selects RX4 yX4_append yX4_append ∈ gx_T := gx_in (List.mem_of_getElem? (i := 499) (by decide +kernel)) (by decide +kernel)
theorem wd_500 : Cond.code yX4_append cX4_append 4 none ∈ gx_T := gx_in (List.mem_of_getElem? (i := 500) (by decide +kernel)) (by decide +kernel)
theorem wd_509 : Cond.methodLink RX6 159 yX1_become ∈ gx_T := gx_in (List.mem_of_getElem? (i := 509) (by decide +kernel)) (by decide +kernel)
theorem wd_510 : Cond.instanceMethod yX1_become ∈ gx_T := gx_in (List.mem_of_getElem? (i := 510) (by decide +kernel)) (by decide +kernel)
theorem wd_511 : Cond.selects RX1 yX1_become yX1_become ∈ gx_T := gx_in (List.mem_of_getElem? (i := 511) (by decide +kernel)) (by decide +kernel)
theorem wd_512 : Cond.code yX1_become cX1_become 2 none ∈ gx_T := gx_in (List.mem_of_getElem? (i := 512) (by decide +kernel)) (by decide +kernel)
theorem wd_514 : Cond.methodLink RX6 163 yX4_readOnto ∈ gx_T := gx_in (List.mem_of_getElem? (i := 514) (by decide +kernel)) (by decide +kernel)
theorem wd_515 : Cond.instanceMethod yX4_readOnto ∈ gx_T := gx_in (List.mem_of_getElem? (i := 515) (by decide +kernel)) (by decide +kernel)
theorem wd_516 : Cond.selects RX4 yX4_readOnto yX4_readOnto ∈ gx_T := gx_in (List.mem_of_getElem? (i := 516) (by decide +kernel)) (by decide +kernel)
theorem wd_517 : Cond.code yX4_readOnto cX4_readOnto 5 (some .int) ∈ gx_T := gx_in (List.mem_of_getElem? (i := 517) (by decide +kernel)) (by decide +kernel)
theorem wd_642 : Cond.methodLink RX6 182 yX6_isOne ∈ gx_T := gx_in (List.mem_of_getElem? (i := 642) (by decide +kernel)) (by decide +kernel)
theorem wd_644 : Cond.instanceMethod yX6_isOne ∈ gx_T := gx_in (List.mem_of_getElem? (i := 644) (by decide +kernel)) (by decide +kernel)
theorem wd_645 : Cond.code yX6_isOne cX6_isOne 2 (some .boolean) ∈ gx_T := gx_in (List.mem_of_getElem? (i := 645) (by decide +kernel)) (by decide +kernel)
theorem wd_750 : Cond.methodLink RX6 247 yJ6_bitCount_0f7a4 ∈ gx_T := gx_in (List.mem_of_getElem? (i := 750) (by decide +kernel)) (by decide +kernel)
theorem wd_751 : Cond.static yJ6_bitCount_0f7a4 ∈ gx_T := gx_in (List.mem_of_getElem? (i := 751) (by decide +kernel)) (by decide +kernel)
theorem wd_752 : Cond.code yJ6_bitCount_0f7a4 cJ6_bitCount_0f7a4 1 (some .int) ∈ gx_T := gx_in (List.mem_of_getElem? (i := 752) (by decide +kernel)) (by decide +kernel)
theorem wd_912 : Cond.methodLink RX6 306 yX1_goneInAll ∈ gx_T := gx_in (List.mem_of_getElem? (i := 912) (by decide +kernel)) (by decide +kernel)
theorem wd_913 : Cond.instanceMethod yX1_goneInAll ∈ gx_T := gx_in (List.mem_of_getElem? (i := 913) (by decide +kernel)) (by decide +kernel)
theorem wd_914 : Cond.selects RX1 yX1_goneInAll yX1_goneInAll ∈ gx_T := gx_in (List.mem_of_getElem? (i := 914) (by decide +kernel)) (by decide +kernel)
theorem wd_915 : Cond.code yX1_goneInAll cX1_goneInAll 3 (some .int) ∈ gx_T := gx_in (List.mem_of_getElem? (i := 915) (by decide +kernel)) (by decide +kernel)
theorem wd_916 : Cond.methodLink RX6 309 yX6_filledShelves ∈ gx_T := gx_in (List.mem_of_getElem? (i := 916) (by decide +kernel)) (by decide +kernel)
theorem wd_918 : Cond.instanceMethod yX6_filledShelves ∈ gx_T := gx_in (List.mem_of_getElem? (i := 918) (by decide +kernel)) (by decide +kernel)
theorem wd_919 : Cond.code yX6_filledShelves cX6_filledShelves 3 (some .int) ∈ gx_T := gx_in (List.mem_of_getElem? (i := 919) (by decide +kernel)) (by decide +kernel)
theorem gS_RX6_53 : GoodIn gx_T (va_wsS RX6 53 yX6_isShelf (.code yX6_isShelf cX6_isShelf 1 (some .boolean) :: gx_T)) := gx_gS wd_306 wd_307 wd_69 wd_308
theorem gV_RX6_65 : GoodIn gx_T (wsV RX6 65 RX3 yX3_becomeRow (.code yX3_becomeRow cX3_becomeRow 3 none :: gx_T)) := gx_gV wd_316 wd_317 wd_318 wd_74 wd_319
theorem gV_RX6_61 : GoodIn gx_T (wsV RX6 61 RX6 yX6_refuse (.code yX6_refuse cX6_refuse 2 (some .int) :: gx_T)) := gx_gV wd_312 wd_314 wd_0 wd_69 wd_315
theorem gV_RX6_69 : GoodIn gx_T (wsV RX6 69 RX6 yX6_rowTrouble (.code yX6_rowTrouble cX6_rowTrouble 2 (some .int) :: gx_T)) := gx_gV wd_327 wd_329 wd_1 wd_69 wd_330
theorem gS_RX6_80 : GoodIn gx_T (va_wsS RX6 80 yX6_copyTrouble (.code yX6_copyTrouble cX6_copyTrouble 2 (some .int) :: gx_T)) := gx_gS wd_347 wd_348 wd_69 wd_349
theorem gV_RX6_107 : GoodIn gx_T (wsV RX6 107 RX3 yX3_becomeRule (.code yX3_becomeRule cX3_becomeRule 3 none :: gx_T)) := gx_gV wd_373 wd_374 wd_375 wd_74 wd_376
theorem gV_RX6_110 : GoodIn gx_T (wsV RX6 110 RX6 yX6_ruleTrouble (.code yX6_ruleTrouble cX6_ruleTrouble 2 (some .int) :: gx_T)) := gx_gV wd_381 wd_383 wd_2 wd_69 wd_384
theorem gS_RX6_130 : GoodIn gx_T (va_wsS RX6 130 yX6_isPlace (.code yX6_isPlace cX6_isPlace 1 (some .boolean) :: gx_T)) := gx_gS wd_461 wd_462 wd_69 wd_463
theorem gV_RX6_136 : GoodIn gx_T (wsV RX6 136 RX1 yX1_build (.code yX1_build cX1_build 6 (some .int) :: gx_T)) := gx_gV wd_464 wd_465 wd_466 wd_70 wd_467
theorem gV_RX6_140 : GoodIn gx_T (wsV RX6 140 RX1 yX1_settle (.code yX1_settle cX1_settle 3 (some .int) :: gx_T)) := gx_gV wd_472 wd_473 wd_474 wd_70 wd_475
theorem gV_RX6_143 : GoodIn gx_T (wsV RX6 143 RX6 yX6_isRoad (.code yX6_isRoad cX6_isRoad 2 (some .boolean) :: gx_T)) := gx_gV wd_484 wd_486 wd_4 wd_69 wd_487
theorem gV_RX6_156 : GoodIn gx_T (wsV RX6 156 RX4 yX4_append (.code yX4_append cX4_append 4 none :: gx_T)) := gx_gV wd_497 wd_498 wd_499 wd_72 wd_500
theorem gV_RX6_159 : GoodIn gx_T (wsV RX6 159 RX1 yX1_become (.code yX1_become cX1_become 2 none :: gx_T)) := gx_gV wd_509 wd_510 wd_511 wd_70 wd_512
theorem gV_RX6_163 : GoodIn gx_T (wsV RX6 163 RX4 yX4_readOnto (.code yX4_readOnto cX4_readOnto 5 (some .int) :: gx_T)) := gx_gV wd_514 wd_515 wd_516 wd_72 wd_517
theorem gV_RX6_182 : GoodIn gx_T (wsV RX6 182 RX6 yX6_isOne (.code yX6_isOne cX6_isOne 2 (some .boolean) :: gx_T)) := gx_gV wd_642 wd_644 wd_18 wd_69 wd_645
theorem gV_RX6_306 : GoodIn gx_T (wsV RX6 306 RX1 yX1_goneInAll (.code yX1_goneInAll cX1_goneInAll 3 (some .int) :: gx_T)) := gx_gV wd_912 wd_913 wd_914 wd_70 wd_915
theorem gV_RX6_309 : GoodIn gx_T (wsV RX6 309 RX6 yX6_filledShelves (.code yX6_filledShelves cX6_filledShelves 3 (some .int) :: gx_T)) := gx_gV wd_916 wd_918 wd_24 wd_69 wd_919
theorem gS_RX6_247 : GoodIn gx_T (va_wsS RX6 247 yJ6_bitCount_0f7a4 (.code yJ6_bitCount_0f7a4 cJ6_bitCount_0f7a4 1 (some .int) :: gx_T)) := gx_gS wd_750 wd_751 wd_83 wd_752
theorem dX6_row_0 : decode cX6_row 0 = .ok (.iload_n 1, 1) := by decide +kernel
theorem dX6_row_1 : decode cX6_row 1 = .ok (.invokestatic 53, 3) := by decide +kernel
theorem dX6_row_4 : decode cX6_row 4 = .ok (.ifCond .eq 22, 3) := by decide +kernel
theorem dX6_row_7 : decode cX6_row 7 = .ok (.iload_n 2, 1) := by decide +kernel
theorem dX6_row_8 : decode cX6_row 8 = .ok (.iconst 0, 1) := by decide +kernel
theorem dX6_row_9 : decode cX6_row 9 = .ok (.iconst 4, 1) := by decide +kernel
theorem dX6_row_10 : decode cX6_row 10 = .ok (.invokestatic 57, 3) := by decide +kernel
theorem dX6_row_13 : decode cX6_row 13 = .ok (.ifCond .eq 13, 3) := by decide +kernel
theorem dX6_row_16 : decode cX6_row 16 = .ok (.iload_n 3, 1) := by decide +kernel
theorem dX6_row_17 : decode cX6_row 17 = .ok (.iconst 0, 1) := by decide +kernel
theorem dX6_row_18 : decode cX6_row 18 = .ok (.bipush 40, 2) := by decide +kernel
theorem dX6_row_20 : decode cX6_row 20 = .ok (.invokestatic 57, 3) := by decide +kernel
theorem dX6_row_23 : decode cX6_row 23 = .ok (.ifCond .ne 10, 3) := by decide +kernel
theorem dX6_row_26 : decode cX6_row 26 = .ok (.aload_n 0, 1) := by decide +kernel
theorem dX6_row_27 : decode cX6_row 27 = .ok (.bipush (-2), 2) := by decide +kernel
theorem dX6_row_29 : decode cX6_row 29 = .ok (.invokevirtual 61, 3) := by decide +kernel
theorem dX6_row_32 : decode cX6_row 32 = .ok (.ireturn, 1) := by decide +kernel
theorem dX6_row_33 : decode cX6_row 33 = .ok (.aload_n 0, 1) := by decide +kernel
theorem dX6_row_34 : decode cX6_row 34 = .ok (.getfield 31, 3) := by decide +kernel
theorem dX6_row_37 : decode cX6_row 37 = .ok (.iload_n 1, 1) := by decide +kernel
theorem dX6_row_38 : decode cX6_row 38 = .ok (.aaload, 1) := by decide +kernel
theorem dX6_row_39 : decode cX6_row 39 = .ok (.iload_n 2, 1) := by decide +kernel
theorem dX6_row_40 : decode cX6_row 40 = .ok (.iload_n 3, 1) := by decide +kernel
theorem dX6_row_41 : decode cX6_row 41 = .ok (.invokevirtual 65, 3) := by decide +kernel
theorem dX6_row_44 : decode cX6_row 44 = .ok (.iconst 1, 1) := by decide +kernel
theorem dX6_row_45 : decode cX6_row 45 = .ok (.ireturn, 1) := by decide +kernel
theorem dX6_set_0 : decode cX6_set 0 = .ok (.iload_n 1, 1) := by decide +kernel
theorem dX6_set_1 : decode cX6_set 1 = .ok (.invokestatic 53, 3) := by decide +kernel
theorem dX6_set_4 : decode cX6_set 4 = .ok (.ifCond .ne 10, 3) := by decide +kernel
theorem dX6_set_7 : decode cX6_set 7 = .ok (.aload_n 0, 1) := by decide +kernel
theorem dX6_set_8 : decode cX6_set 8 = .ok (.bipush (-2), 2) := by decide +kernel
theorem dX6_set_10 : decode cX6_set 10 = .ok (.invokevirtual 61, 3) := by decide +kernel
theorem dX6_set_13 : decode cX6_set 13 = .ok (.ireturn, 1) := by decide +kernel
theorem dX6_set_14 : decode cX6_set 14 = .ok (.aload_n 0, 1) := by decide +kernel
theorem dX6_set_15 : decode cX6_set 15 = .ok (.iload_n 1, 1) := by decide +kernel
theorem dX6_set_16 : decode cX6_set 16 = .ok (.invokevirtual 69, 3) := by decide +kernel
theorem dX6_set_19 : decode cX6_set 19 = .ok (.istore 5, 2) := by decide +kernel
theorem dX6_set_21 : decode cX6_set 21 = .ok (.iload 5, 2) := by decide +kernel
theorem dX6_set_23 : decode cX6_set 23 = .ok (.ifCond .eq 10, 3) := by decide +kernel
theorem dX6_set_26 : decode cX6_set 26 = .ok (.aload_n 0, 1) := by decide +kernel
theorem dX6_set_27 : decode cX6_set 27 = .ok (.iload 5, 2) := by decide +kernel
theorem dX6_set_29 : decode cX6_set 29 = .ok (.invokevirtual 61, 3) := by decide +kernel
theorem dX6_set_32 : decode cX6_set 32 = .ok (.ireturn, 1) := by decide +kernel
theorem dX6_copy_0 : decode cX6_copy 0 = .ok (.iload_n 1, 1) := by decide +kernel
theorem dX6_copy_1 : decode cX6_copy 1 = .ok (.invokestatic 53, 3) := by decide +kernel
theorem dX6_copy_4 : decode cX6_copy 4 = .ok (.ifCond .eq 10, 3) := by decide +kernel
theorem dX6_copy_7 : decode cX6_copy 7 = .ok (.iload_n 2, 1) := by decide +kernel
theorem dX6_copy_8 : decode cX6_copy 8 = .ok (.invokestatic 53, 3) := by decide +kernel
theorem dX6_copy_11 : decode cX6_copy 11 = .ok (.ifCond .ne 10, 3) := by decide +kernel
theorem dX6_copy_14 : decode cX6_copy 14 = .ok (.aload_n 0, 1) := by decide +kernel
theorem dX6_copy_15 : decode cX6_copy 15 = .ok (.bipush (-2), 2) := by decide +kernel
theorem dX6_copy_17 : decode cX6_copy 17 = .ok (.invokevirtual 61, 3) := by decide +kernel
theorem dX6_copy_20 : decode cX6_copy 20 = .ok (.ireturn, 1) := by decide +kernel
theorem dX6_copy_21 : decode cX6_copy 21 = .ok (.aload_n 0, 1) := by decide +kernel
theorem dX6_copy_22 : decode cX6_copy 22 = .ok (.getfield 31, 3) := by decide +kernel
theorem dX6_copy_25 : decode cX6_copy 25 = .ok (.iload_n 1, 1) := by decide +kernel
theorem dX6_copy_26 : decode cX6_copy 26 = .ok (.aaload, 1) := by decide +kernel
theorem dX6_copy_27 : decode cX6_copy 27 = .ok (.aload_n 0, 1) := by decide +kernel
theorem dX6_copy_28 : decode cX6_copy 28 = .ok (.getfield 31, 3) := by decide +kernel
theorem dX6_copy_31 : decode cX6_copy 31 = .ok (.iload_n 2, 1) := by decide +kernel
theorem dX6_copy_32 : decode cX6_copy 32 = .ok (.aaload, 1) := by decide +kernel
theorem dX6_copy_33 : decode cX6_copy 33 = .ok (.invokestatic 80, 3) := by decide +kernel
theorem dX6_copy_36 : decode cX6_copy 36 = .ok (.istore 6, 2) := by decide +kernel
theorem dX6_copy_38 : decode cX6_copy 38 = .ok (.iload 6, 2) := by decide +kernel
theorem dX6_copy_40 : decode cX6_copy 40 = .ok (.ifCond .eq 10, 3) := by decide +kernel
theorem dX6_copy_43 : decode cX6_copy 43 = .ok (.aload_n 0, 1) := by decide +kernel
theorem dX6_copy_44 : decode cX6_copy 44 = .ok (.iload 6, 2) := by decide +kernel
theorem dX6_copy_46 : decode cX6_copy 46 = .ok (.invokevirtual 61, 3) := by decide +kernel
theorem dX6_copy_49 : decode cX6_copy 49 = .ok (.ireturn, 1) := by decide +kernel
theorem dX6_element_0 : decode cX6_element 0 = .ok (.iload_n 1, 1) := by decide +kernel
theorem dX6_element_1 : decode cX6_element 1 = .ok (.invokestatic 53, 3) := by decide +kernel
theorem dX6_element_4 : decode cX6_element 4 = .ok (.ifCond .eq 34, 3) := by decide +kernel
theorem dX6_element_7 : decode cX6_element 7 = .ok (.aload_n 0, 1) := by decide +kernel
theorem dX6_element_8 : decode cX6_element 8 = .ok (.getfield 31, 3) := by decide +kernel
theorem dX6_element_11 : decode cX6_element 11 = .ok (.iload_n 1, 1) := by decide +kernel
theorem dX6_element_12 : decode cX6_element 12 = .ok (.aaload, 1) := by decide +kernel
theorem dX6_element_13 : decode cX6_element 13 = .ok (.invokevirtual 98, 3) := by decide +kernel
theorem dX6_element_16 : decode cX6_element 16 = .ok (.ifCond .eq 22, 3) := by decide +kernel
theorem dX6_element_38 : decode cX6_element 38 = .ok (.lconst 0, 1) := by decide +kernel
theorem dX6_element_39 : decode cX6_element 39 = .ok (.lreturn, 1) := by decide +kernel
theorem dX6_holds_0 : decode cX6_holds 0 = .ok (.iload_n 1, 1) := by decide +kernel
theorem dX6_holds_1 : decode cX6_holds 1 = .ok (.invokestatic 53, 3) := by decide +kernel
theorem dX6_holds_4 : decode cX6_holds 4 = .ok (.ifCond .eq 15, 3) := by decide +kernel
theorem dX6_holds_7 : decode cX6_holds 7 = .ok (.aload_n 0, 1) := by decide +kernel
theorem dX6_holds_8 : decode cX6_holds 8 = .ok (.getfield 31, 3) := by decide +kernel
theorem dX6_holds_11 : decode cX6_holds 11 = .ok (.iload_n 1, 1) := by decide +kernel
theorem dX6_holds_12 : decode cX6_holds 12 = .ok (.aaload, 1) := by decide +kernel
theorem dX6_holds_13 : decode cX6_holds 13 = .ok (.getfield 102, 3) := by decide +kernel
theorem dX6_holds_16 : decode cX6_holds 16 = .ok (.goto 4, 3) := by decide +kernel
theorem dX6_holds_19 : decode cX6_holds 19 = .ok (.iconst (-1), 1) := by decide +kernel
theorem dX6_holds_20 : decode cX6_holds 20 = .ok (.ireturn, 1) := by decide +kernel
theorem dX6_rule_0 : decode cX6_rule 0 = .ok (.iload_n 1, 1) := by decide +kernel
theorem dX6_rule_1 : decode cX6_rule 1 = .ok (.invokestatic 53, 3) := by decide +kernel
theorem dX6_rule_4 : decode cX6_rule 4 = .ok (.ifCond .eq 23, 3) := by decide +kernel
theorem dX6_rule_7 : decode cX6_rule 7 = .ok (.iload_n 2, 1) := by decide +kernel
theorem dX6_rule_8 : decode cX6_rule 8 = .ok (.iconst 1, 1) := by decide +kernel
theorem dX6_rule_9 : decode cX6_rule 9 = .ok (.bipush 6, 2) := by decide +kernel
theorem dX6_rule_11 : decode cX6_rule 11 = .ok (.invokestatic 57, 3) := by decide +kernel
theorem dX6_rule_14 : decode cX6_rule 14 = .ok (.ifCond .eq 13, 3) := by decide +kernel
theorem dX6_rule_17 : decode cX6_rule 17 = .ok (.iload_n 3, 1) := by decide +kernel
theorem dX6_rule_18 : decode cX6_rule 18 = .ok (.iconst 0, 1) := by decide +kernel
theorem dX6_rule_19 : decode cX6_rule 19 = .ok (.bipush 99, 2) := by decide +kernel
theorem dX6_rule_21 : decode cX6_rule 21 = .ok (.invokestatic 57, 3) := by decide +kernel
theorem dX6_rule_24 : decode cX6_rule 24 = .ok (.ifCond .ne 10, 3) := by decide +kernel
theorem dX6_rule_27 : decode cX6_rule 27 = .ok (.aload_n 0, 1) := by decide +kernel
theorem dX6_rule_28 : decode cX6_rule 28 = .ok (.bipush (-2), 2) := by decide +kernel
theorem dX6_rule_30 : decode cX6_rule 30 = .ok (.invokevirtual 61, 3) := by decide +kernel
theorem dX6_rule_33 : decode cX6_rule 33 = .ok (.ireturn, 1) := by decide +kernel
theorem dX6_rule_34 : decode cX6_rule 34 = .ok (.aload_n 0, 1) := by decide +kernel
theorem dX6_rule_35 : decode cX6_rule 35 = .ok (.getfield 31, 3) := by decide +kernel
theorem dX6_rule_38 : decode cX6_rule 38 = .ok (.iload_n 1, 1) := by decide +kernel
theorem dX6_rule_39 : decode cX6_rule 39 = .ok (.aaload, 1) := by decide +kernel
theorem dX6_rule_40 : decode cX6_rule 40 = .ok (.iload_n 2, 1) := by decide +kernel
theorem dX6_rule_41 : decode cX6_rule 41 = .ok (.iload_n 3, 1) := by decide +kernel
theorem dX6_rule_42 : decode cX6_rule 42 = .ok (.invokevirtual 107, 3) := by decide +kernel
theorem dX6_rule_45 : decode cX6_rule 45 = .ok (.iconst 1, 1) := by decide +kernel
theorem dX6_rule_46 : decode cX6_rule 46 = .ok (.ireturn, 1) := by decide +kernel
theorem dX6_says_0 : decode cX6_says 0 = .ok (.iload_n 1, 1) := by decide +kernel
theorem dX6_says_1 : decode cX6_says 1 = .ok (.invokestatic 53, 3) := by decide +kernel
theorem dX6_says_4 : decode cX6_says 4 = .ok (.ifCond .eq 13, 3) := by decide +kernel
theorem dX6_says_7 : decode cX6_says 7 = .ok (.iload_n 2, 1) := by decide +kernel
theorem dX6_says_8 : decode cX6_says 8 = .ok (.iconst 0, 1) := by decide +kernel
theorem dX6_says_9 : decode cX6_says 9 = .ok (.bipush 6, 2) := by decide +kernel
theorem dX6_says_11 : decode cX6_says 11 = .ok (.invokestatic 57, 3) := by decide +kernel
theorem dX6_says_14 : decode cX6_says 14 = .ok (.ifCond .ne 10, 3) := by decide +kernel
theorem dX6_says_17 : decode cX6_says 17 = .ok (.aload_n 0, 1) := by decide +kernel
theorem dX6_says_18 : decode cX6_says 18 = .ok (.bipush (-2), 2) := by decide +kernel
theorem dX6_says_20 : decode cX6_says 20 = .ok (.invokevirtual 61, 3) := by decide +kernel
theorem dX6_says_23 : decode cX6_says 23 = .ok (.ireturn, 1) := by decide +kernel
theorem dX6_says_24 : decode cX6_says 24 = .ok (.aload_n 0, 1) := by decide +kernel
theorem dX6_says_25 : decode cX6_says 25 = .ok (.iload_n 1, 1) := by decide +kernel
theorem dX6_says_26 : decode cX6_says 26 = .ok (.invokevirtual 110, 3) := by decide +kernel
theorem dX6_says_29 : decode cX6_says 29 = .ok (.istore_n 3, 1) := by decide +kernel
theorem dX6_says_30 : decode cX6_says 30 = .ok (.iload_n 3, 1) := by decide +kernel
theorem dX6_says_31 : decode cX6_says 31 = .ok (.ifCond .ne 22, 3) := by decide +kernel
theorem dX6_says_53 : decode cX6_says 53 = .ok (.iload_n 3, 1) := by decide +kernel
theorem dX6_says_54 : decode cX6_says 54 = .ok (.ifCond .eq 9, 3) := by decide +kernel
theorem dX6_says_57 : decode cX6_says 57 = .ok (.aload_n 0, 1) := by decide +kernel
theorem dX6_says_58 : decode cX6_says 58 = .ok (.iload_n 3, 1) := by decide +kernel
theorem dX6_says_59 : decode cX6_says 59 = .ok (.invokevirtual 61, 3) := by decide +kernel
theorem dX6_says_62 : decode cX6_says 62 = .ok (.ireturn, 1) := by decide +kernel
theorem dX6_road_0 : decode cX6_road 0 = .ok (.iload_n 1, 1) := by decide +kernel
theorem dX6_road_1 : decode cX6_road 1 = .ok (.invokestatic 130, 3) := by decide +kernel
theorem dX6_road_4 : decode cX6_road 4 = .ok (.ifCond .eq 25, 3) := by decide +kernel
theorem dX6_road_7 : decode cX6_road 7 = .ok (.iload_n 2, 1) := by decide +kernel
theorem dX6_road_8 : decode cX6_road 8 = .ok (.invokestatic 130, 3) := by decide +kernel
theorem dX6_road_11 : decode cX6_road 11 = .ok (.ifCond .eq 18, 3) := by decide +kernel
theorem dX6_road_14 : decode cX6_road 14 = .ok (.iload_n 1, 1) := by decide +kernel
theorem dX6_road_15 : decode cX6_road 15 = .ok (.iload_n 2, 1) := by decide +kernel
theorem dX6_road_16 : decode cX6_road 16 = .ok (.if_icmp .eq 13, 3) := by decide +kernel
theorem dX6_road_19 : decode cX6_road 19 = .ok (.iload_n 3, 1) := by decide +kernel
theorem dX6_road_20 : decode cX6_road 20 = .ok (.iconst 1, 1) := by decide +kernel
theorem dX6_road_21 : decode cX6_road 21 = .ok (.bipush 60, 2) := by decide +kernel
theorem dX6_road_23 : decode cX6_road 23 = .ok (.invokestatic 57, 3) := by decide +kernel
theorem dX6_road_26 : decode cX6_road 26 = .ok (.ifCond .ne 10, 3) := by decide +kernel
theorem dX6_road_29 : decode cX6_road 29 = .ok (.aload_n 0, 1) := by decide +kernel
theorem dX6_road_30 : decode cX6_road 30 = .ok (.bipush (-2), 2) := by decide +kernel
theorem dX6_road_32 : decode cX6_road 32 = .ok (.invokevirtual 61, 3) := by decide +kernel
theorem dX6_road_35 : decode cX6_road 35 = .ok (.ireturn, 1) := by decide +kernel
theorem dX6_road_36 : decode cX6_road 36 = .ok (.aload_n 0, 1) := by decide +kernel
theorem dX6_road_37 : decode cX6_road 37 = .ok (.getfield 10, 3) := by decide +kernel
theorem dX6_road_40 : decode cX6_road 40 = .ok (.getfield 133, 3) := by decide +kernel
theorem dX6_road_43 : decode cX6_road 43 = .ok (.bipush 16, 2) := by decide +kernel
theorem dX6_road_45 : decode cX6_road 45 = .ok (.if_icmp .ne 12, 3) := by decide +kernel
theorem dX6_road_57 : decode cX6_road 57 = .ok (.aload_n 0, 1) := by decide +kernel
theorem dX6_road_58 : decode cX6_road 58 = .ok (.getfield 10, 3) := by decide +kernel
theorem dX6_road_61 : decode cX6_road 61 = .ok (.iload_n 1, 1) := by decide +kernel
theorem dX6_road_62 : decode cX6_road 62 = .ok (.iload_n 2, 1) := by decide +kernel
theorem dX6_road_63 : decode cX6_road 63 = .ok (.iload_n 3, 1) := by decide +kernel
theorem dX6_road_64 : decode cX6_road 64 = .ok (.iload 4, 2) := by decide +kernel
theorem dX6_road_66 : decode cX6_road 66 = .ok (.invokevirtual 136, 3) := by decide +kernel
theorem dX6_road_69 : decode cX6_road 69 = .ok (.ireturn, 1) := by decide +kernel
theorem dX6_one_0 : decode cX6_one 0 = .ok (.iload_n 1, 1) := by decide +kernel
theorem dX6_one_1 : decode cX6_one 1 = .ok (.invokestatic 130, 3) := by decide +kernel
theorem dX6_one_4 : decode cX6_one 4 = .ok (.ifCond .ne 10, 3) := by decide +kernel
theorem dX6_one_7 : decode cX6_one 7 = .ok (.aload_n 0, 1) := by decide +kernel
theorem dX6_one_8 : decode cX6_one 8 = .ok (.bipush (-2), 2) := by decide +kernel
theorem dX6_one_10 : decode cX6_one 10 = .ok (.invokevirtual 61, 3) := by decide +kernel
theorem dX6_one_13 : decode cX6_one 13 = .ok (.ireturn, 1) := by decide +kernel
theorem dX6_one_14 : decode cX6_one 14 = .ok (.aload_n 0, 1) := by decide +kernel
theorem dX6_one_15 : decode cX6_one 15 = .ok (.getfield 10, 3) := by decide +kernel
theorem dX6_one_18 : decode cX6_one 18 = .ok (.getfield 123, 3) := by decide +kernel
theorem dX6_one_21 : decode cX6_one 21 = .ok (.bipush 6, 2) := by decide +kernel
theorem dX6_one_23 : decode cX6_one 23 = .ok (.if_icmp .ne 12, 3) := by decide +kernel
theorem dX6_one_35 : decode cX6_one 35 = .ok (.aload_n 0, 1) := by decide +kernel
theorem dX6_one_36 : decode cX6_one 36 = .ok (.getfield 10, 3) := by decide +kernel
theorem dX6_one_39 : decode cX6_one 39 = .ok (.iload_n 1, 1) := by decide +kernel
theorem dX6_one_40 : decode cX6_one 40 = .ok (.invokevirtual 140, 3) := by decide +kernel
theorem dX6_one_43 : decode cX6_one 43 = .ok (.ireturn, 1) := by decide +kernel
theorem dX6_shut_0 : decode cX6_shut 0 = .ok (.aload_n 0, 1) := by decide +kernel
theorem dX6_shut_1 : decode cX6_shut 1 = .ok (.iload_n 1, 1) := by decide +kernel
theorem dX6_shut_2 : decode cX6_shut 2 = .ok (.invokevirtual 143, 3) := by decide +kernel
theorem dX6_shut_5 : decode cX6_shut 5 = .ok (.ifCond .ne 10, 3) := by decide +kernel
theorem dX6_shut_8 : decode cX6_shut 8 = .ok (.aload_n 0, 1) := by decide +kernel
theorem dX6_shut_9 : decode cX6_shut 9 = .ok (.bipush (-2), 2) := by decide +kernel
theorem dX6_shut_11 : decode cX6_shut 11 = .ok (.invokevirtual 61, 3) := by decide +kernel
theorem dX6_shut_14 : decode cX6_shut 14 = .ok (.ireturn, 1) := by decide +kernel
theorem dX6_anew_0 : decode cX6_anew 0 = .ok (.iload_n 1, 1) := by decide +kernel
theorem dX6_anew_1 : decode cX6_anew 1 = .ok (.iconst 0, 1) := by decide +kernel
theorem dX6_anew_2 : decode cX6_anew 2 = .ok (.bipush 99, 2) := by decide +kernel
theorem dX6_anew_4 : decode cX6_anew 4 = .ok (.invokestatic 57, 3) := by decide +kernel
theorem dX6_anew_7 : decode cX6_anew 7 = .ok (.ifCond .ne 10, 3) := by decide +kernel
theorem dX6_anew_10 : decode cX6_anew 10 = .ok (.aload_n 0, 1) := by decide +kernel
theorem dX6_anew_11 : decode cX6_anew 11 = .ok (.bipush (-2), 2) := by decide +kernel
theorem dX6_anew_13 : decode cX6_anew 13 = .ok (.invokevirtual 61, 3) := by decide +kernel
theorem dX6_anew_16 : decode cX6_anew 16 = .ok (.ireturn, 1) := by decide +kernel
theorem dX6_anew_17 : decode cX6_anew 17 = .ok (.aload_n 0, 1) := by decide +kernel
theorem dX6_anew_18 : decode cX6_anew 18 = .ok (.getfield 10, 3) := by decide +kernel
theorem dX6_anew_21 : decode cX6_anew 21 = .ok (.getfield 152, 3) := by decide +kernel
theorem dX6_anew_24 : decode cX6_anew 24 = .ok (.istore_n 2, 1) := by decide +kernel
theorem dX6_anew_25 : decode cX6_anew 25 = .ok (.aload_n 0, 1) := by decide +kernel
theorem dX6_anew_26 : decode cX6_anew 26 = .ok (.getfield 10, 3) := by decide +kernel
theorem dX6_anew_29 : decode cX6_anew 29 = .ok (.iload_n 1, 1) := by decide +kernel
theorem dX6_anew_30 : decode cX6_anew 30 = .ok (.putfield 152, 3) := by decide +kernel
theorem dX6_anew_33 : decode cX6_anew 33 = .ok (.iload_n 2, 1) := by decide +kernel
theorem dX6_anew_34 : decode cX6_anew 34 = .ok (.ireturn, 1) := by decide +kernel
theorem dX6_feed_0 : decode cX6_feed 0 = .ok (.iload_n 2, 1) := by decide +kernel
theorem dX6_feed_1 : decode cX6_feed 1 = .ok (.iconst 1, 1) := by decide +kernel
theorem dX6_feed_2 : decode cX6_feed 2 = .ok (.iconst 4, 1) := by decide +kernel
theorem dX6_feed_3 : decode cX6_feed 3 = .ok (.invokestatic 57, 3) := by decide +kernel
theorem dX6_feed_6 : decode cX6_feed 6 = .ok (.ifCond .ne 10, 3) := by decide +kernel
theorem dX6_feed_9 : decode cX6_feed 9 = .ok (.aload_n 0, 1) := by decide +kernel
theorem dX6_feed_10 : decode cX6_feed 10 = .ok (.bipush (-2), 2) := by decide +kernel
theorem dX6_feed_12 : decode cX6_feed 12 = .ok (.invokevirtual 61, 3) := by decide +kernel
theorem dX6_feed_15 : decode cX6_feed 15 = .ok (.ireturn, 1) := by decide +kernel
theorem dX6_feed_16 : decode cX6_feed 16 = .ok (.aload_n 0, 1) := by decide +kernel
theorem dX6_feed_17 : decode cX6_feed 17 = .ok (.getfield 25, 3) := by decide +kernel
theorem dX6_feed_20 : decode cX6_feed 20 = .ok (.getfield 155, 3) := by decide +kernel
theorem dX6_feed_23 : decode cX6_feed 23 = .ok (.iload_n 2, 1) := by decide +kernel
theorem dX6_feed_24 : decode cX6_feed 24 = .ok (.iadd, 1) := by decide +kernel
theorem dX6_feed_25 : decode cX6_feed 25 = .ok (.sipush 250, 3) := by decide +kernel
theorem dX6_feed_28 : decode cX6_feed 28 = .ok (.if_icmp .le 10, 3) := by decide +kernel
theorem dX6_feed_38 : decode cX6_feed 38 = .ok (.aload_n 0, 1) := by decide +kernel
theorem dX6_feed_39 : decode cX6_feed 39 = .ok (.getfield 25, 3) := by decide +kernel
theorem dX6_feed_42 : decode cX6_feed 42 = .ok (.iload_n 1, 1) := by decide +kernel
theorem dX6_feed_43 : decode cX6_feed 43 = .ok (.iload_n 2, 1) := by decide +kernel
theorem dX6_feed_44 : decode cX6_feed 44 = .ok (.invokevirtual 156, 3) := by decide +kernel
theorem dX6_feed_47 : decode cX6_feed 47 = .ok (.aload_n 0, 1) := by decide +kernel
theorem dX6_feed_48 : decode cX6_feed 48 = .ok (.getfield 25, 3) := by decide +kernel
theorem dX6_feed_51 : decode cX6_feed 51 = .ok (.getfield 155, 3) := by decide +kernel
theorem dX6_feed_54 : decode cX6_feed 54 = .ok (.ireturn, 1) := by decide +kernel
theorem dX6_wipe_0 : decode cX6_wipe 0 = .ok (.aload_n 0, 1) := by decide +kernel
theorem dX6_wipe_1 : decode cX6_wipe 1 = .ok (.getfield 25, 3) := by decide +kernel
theorem dX6_wipe_4 : decode cX6_wipe 4 = .ok (.getfield 155, 3) := by decide +kernel
theorem dX6_wipe_7 : decode cX6_wipe 7 = .ok (.istore_n 1, 1) := by decide +kernel
theorem dX6_wipe_8 : decode cX6_wipe 8 = .ok (.aload_n 0, 1) := by decide +kernel
theorem dX6_wipe_9 : decode cX6_wipe 9 = .ok (.getfield 25, 3) := by decide +kernel
theorem dX6_wipe_12 : decode cX6_wipe 12 = .ok (.iconst 0, 1) := by decide +kernel
theorem dX6_wipe_13 : decode cX6_wipe 13 = .ok (.putfield 155, 3) := by decide +kernel
theorem dX6_wipe_16 : decode cX6_wipe 16 = .ok (.iload_n 1, 1) := by decide +kernel
theorem dX6_wipe_17 : decode cX6_wipe 17 = .ok (.ireturn, 1) := by decide +kernel
theorem dX6_land_0 : decode cX6_land 0 = .ok (.aload_n 0, 1) := by decide +kernel
theorem dX6_land_1 : decode cX6_land 1 = .ok (.getfield 19, 3) := by decide +kernel
theorem dX6_land_4 : decode cX6_land 4 = .ok (.aload_n 0, 1) := by decide +kernel
theorem dX6_land_5 : decode cX6_land 5 = .ok (.getfield 10, 3) := by decide +kernel
theorem dX6_land_8 : decode cX6_land 8 = .ok (.invokevirtual 159, 3) := by decide +kernel
theorem dX6_land_11 : decode cX6_land 11 = .ok (.aload_n 0, 1) := by decide +kernel
theorem dX6_land_12 : decode cX6_land 12 = .ok (.getfield 25, 3) := by decide +kernel
theorem dX6_land_15 : decode cX6_land 15 = .ok (.aload_n 0, 1) := by decide +kernel
theorem dX6_land_16 : decode cX6_land 16 = .ok (.getfield 19, 3) := by decide +kernel
theorem dX6_land_19 : decode cX6_land 19 = .ok (.invokevirtual 163, 3) := by decide +kernel
theorem dX6_land_22 : decode cX6_land 22 = .ok (.istore_n 1, 1) := by decide +kernel
theorem dX6_land_23 : decode cX6_land 23 = .ok (.aload_n 0, 1) := by decide +kernel
theorem dX6_land_24 : decode cX6_land 24 = .ok (.getfield 25, 3) := by decide +kernel
theorem dX6_land_27 : decode cX6_land 27 = .ok (.getfield 167, 3) := by decide +kernel
theorem dX6_land_30 : decode cX6_land 30 = .ok (.istore_n 2, 1) := by decide +kernel
theorem dX6_land_31 : decode cX6_land 31 = .ok (.aload_n 0, 1) := by decide +kernel
theorem dX6_land_32 : decode cX6_land 32 = .ok (.getfield 25, 3) := by decide +kernel
theorem dX6_land_35 : decode cX6_land 35 = .ok (.iconst 0, 1) := by decide +kernel
theorem dX6_land_36 : decode cX6_land 36 = .ok (.putfield 155, 3) := by decide +kernel
theorem dX6_land_39 : decode cX6_land 39 = .ok (.iload_n 2, 1) := by decide +kernel
theorem dX6_land_40 : decode cX6_land 40 = .ok (.iconst (-1), 1) := by decide +kernel
theorem dX6_land_41 : decode cX6_land 41 = .ok (.if_icmp .eq 15, 3) := by decide +kernel
theorem dX6_land_44 : decode cX6_land 44 = .ok (.aload_n 0, 1) := by decide +kernel
theorem dX6_land_45 : decode cX6_land 45 = .ok (.bipush (-2), 2) := by decide +kernel
theorem dX6_land_47 : decode cX6_land 47 = .ok (.invokevirtual 61, 3) := by decide +kernel
theorem dX6_land_50 : decode cX6_land 50 = .ok (.pop, 1) := by decide +kernel
theorem dX6_land_51 : decode cX6_land 51 = .ok (.bipush (-20), 2) := by decide +kernel
theorem dX6_land_53 : decode cX6_land 53 = .ok (.iload_n 2, 1) := by decide +kernel
theorem dX6_land_54 : decode cX6_land 54 = .ok (.isub, 1) := by decide +kernel
theorem dX6_land_55 : decode cX6_land 55 = .ok (.ireturn, 1) := by decide +kernel
theorem dX6_roadOf_0 : decode cX6_roadOf 0 = .ok (.aload_n 0, 1) := by decide +kernel
theorem dX6_roadOf_1 : decode cX6_roadOf 1 = .ok (.iload_n 1, 1) := by decide +kernel
theorem dX6_roadOf_2 : decode cX6_roadOf 2 = .ok (.invokevirtual 143, 3) := by decide +kernel
theorem dX6_roadOf_5 : decode cX6_roadOf 5 = .ok (.ifCond .ne 10, 3) := by decide +kernel
theorem dX6_roadOf_8 : decode cX6_roadOf 8 = .ok (.aload_n 0, 1) := by decide +kernel
theorem dX6_roadOf_9 : decode cX6_roadOf 9 = .ok (.bipush (-2), 2) := by decide +kernel
theorem dX6_roadOf_11 : decode cX6_roadOf 11 = .ok (.invokevirtual 61, 3) := by decide +kernel
theorem dX6_roadOf_14 : decode cX6_roadOf 14 = .ok (.ireturn, 1) := by decide +kernel
theorem dX6_oneOf_0 : decode cX6_oneOf 0 = .ok (.aload_n 0, 1) := by decide +kernel
theorem dX6_oneOf_1 : decode cX6_oneOf 1 = .ok (.iload_n 1, 1) := by decide +kernel
theorem dX6_oneOf_2 : decode cX6_oneOf 2 = .ok (.invokevirtual 182, 3) := by decide +kernel
theorem dX6_oneOf_5 : decode cX6_oneOf 5 = .ok (.ifCond .ne 10, 3) := by decide +kernel
theorem dX6_oneOf_8 : decode cX6_oneOf 8 = .ok (.aload_n 0, 1) := by decide +kernel
theorem dX6_oneOf_9 : decode cX6_oneOf 9 = .ok (.bipush (-2), 2) := by decide +kernel
theorem dX6_oneOf_11 : decode cX6_oneOf 11 = .ok (.invokevirtual 61, 3) := by decide +kernel
theorem dX6_oneOf_14 : decode cX6_oneOf 14 = .ok (.ireturn, 1) := by decide +kernel
theorem dX6_when_0 : decode cX6_when 0 = .ok (.aload_n 0, 1) := by decide +kernel
theorem dX6_when_1 : decode cX6_when 1 = .ok (.iload_n 1, 1) := by decide +kernel
theorem dX6_when_2 : decode cX6_when 2 = .ok (.invokevirtual 182, 3) := by decide +kernel
theorem dX6_when_5 : decode cX6_when 5 = .ok (.ifCond .eq 23, 3) := by decide +kernel
theorem dX6_when_28 : decode cX6_when 28 = .ok (.aload_n 0, 1) := by decide +kernel
theorem dX6_when_29 : decode cX6_when 29 = .ok (.bipush (-2), 2) := by decide +kernel
theorem dX6_when_31 : decode cX6_when 31 = .ok (.invokevirtual 61, 3) := by decide +kernel
theorem dX6_when_34 : decode cX6_when 34 = .ok (.ireturn, 1) := by decide +kernel
theorem dX6_left_0 : decode cX6_left 0 = .ok (.aload_n 0, 1) := by decide +kernel
theorem dX6_left_1 : decode cX6_left 1 = .ok (.iload_n 1, 1) := by decide +kernel
theorem dX6_left_2 : decode cX6_left 2 = .ok (.invokevirtual 182, 3) := by decide +kernel
theorem dX6_left_5 : decode cX6_left 5 = .ok (.ifCond .eq 14, 3) := by decide +kernel
theorem dX6_left_19 : decode cX6_left 19 = .ok (.aload_n 0, 1) := by decide +kernel
theorem dX6_left_20 : decode cX6_left 20 = .ok (.bipush (-2), 2) := by decide +kernel
theorem dX6_left_22 : decode cX6_left 22 = .ok (.invokevirtual 61, 3) := by decide +kernel
theorem dX6_left_25 : decode cX6_left 25 = .ok (.ireturn, 1) := by decide +kernel
theorem dX6_here_0 : decode cX6_here 0 = .ok (.aload_n 0, 1) := by decide +kernel
theorem dX6_here_1 : decode cX6_here 1 = .ok (.iload_n 1, 1) := by decide +kernel
theorem dX6_here_2 : decode cX6_here 2 = .ok (.invokevirtual 182, 3) := by decide +kernel
theorem dX6_here_5 : decode cX6_here 5 = .ok (.ifCond .eq 14, 3) := by decide +kernel
theorem dX6_here_19 : decode cX6_here 19 = .ok (.aload_n 0, 1) := by decide +kernel
theorem dX6_here_20 : decode cX6_here 20 = .ok (.bipush (-2), 2) := by decide +kernel
theorem dX6_here_22 : decode cX6_here 22 = .ok (.invokevirtual 61, 3) := by decide +kernel
theorem dX6_here_25 : decode cX6_here 25 = .ok (.ireturn, 1) := by decide +kernel
theorem dX6_reach_0 : decode cX6_reach 0 = .ok (.aload_n 0, 1) := by decide +kernel
theorem dX6_reach_1 : decode cX6_reach 1 = .ok (.iload_n 1, 1) := by decide +kernel
theorem dX6_reach_2 : decode cX6_reach 2 = .ok (.invokevirtual 182, 3) := by decide +kernel
theorem dX6_reach_5 : decode cX6_reach 5 = .ok (.ifCond .eq 14, 3) := by decide +kernel
theorem dX6_reach_19 : decode cX6_reach 19 = .ok (.aload_n 0, 1) := by decide +kernel
theorem dX6_reach_20 : decode cX6_reach 20 = .ok (.bipush (-2), 2) := by decide +kernel
theorem dX6_reach_22 : decode cX6_reach 22 = .ok (.invokevirtual 61, 3) := by decide +kernel
theorem dX6_reach_25 : decode cX6_reach 25 = .ok (.ireturn, 1) := by decide +kernel
theorem dX6_safe_0 : decode cX6_safe 0 = .ok (.aload_n 0, 1) := by decide +kernel
theorem dX6_safe_1 : decode cX6_safe 1 = .ok (.iload_n 1, 1) := by decide +kernel
theorem dX6_safe_2 : decode cX6_safe 2 = .ok (.invokevirtual 182, 3) := by decide +kernel
theorem dX6_safe_5 : decode cX6_safe 5 = .ok (.ifCond .ne 10, 3) := by decide +kernel
theorem dX6_safe_8 : decode cX6_safe 8 = .ok (.aload_n 0, 1) := by decide +kernel
theorem dX6_safe_9 : decode cX6_safe 9 = .ok (.bipush (-2), 2) := by decide +kernel
theorem dX6_safe_11 : decode cX6_safe 11 = .ok (.invokevirtual 61, 3) := by decide +kernel
theorem dX6_safe_14 : decode cX6_safe 14 = .ok (.ireturn, 1) := by decide +kernel
theorem dX6_go_0 : decode cX6_go 0 = .ok (.aload_n 0, 1) := by decide +kernel
theorem dX6_go_1 : decode cX6_go 1 = .ok (.iload_n 1, 1) := by decide +kernel
theorem dX6_go_2 : decode cX6_go 2 = .ok (.invokevirtual 182, 3) := by decide +kernel
theorem dX6_go_5 : decode cX6_go 5 = .ok (.ifCond .eq 11, 3) := by decide +kernel
theorem dX6_go_16 : decode cX6_go 16 = .ok (.aload_n 0, 1) := by decide +kernel
theorem dX6_go_17 : decode cX6_go 17 = .ok (.bipush (-2), 2) := by decide +kernel
theorem dX6_go_19 : decode cX6_go 19 = .ok (.invokevirtual 61, 3) := by decide +kernel
theorem dX6_go_22 : decode cX6_go 22 = .ok (.ireturn, 1) := by decide +kernel
theorem dX6_next_0 : decode cX6_next 0 = .ok (.iload_n 1, 1) := by decide +kernel
theorem dX6_next_1 : decode cX6_next 1 = .ok (.invokestatic 53, 3) := by decide +kernel
theorem dX6_next_4 : decode cX6_next 4 = .ok (.ifCond .eq 11, 3) := by decide +kernel
theorem dX6_next_7 : decode cX6_next 7 = .ok (.aload_n 0, 1) := by decide +kernel
theorem dX6_next_8 : decode cX6_next 8 = .ok (.iload_n 2, 1) := by decide +kernel
theorem dX6_next_9 : decode cX6_next 9 = .ok (.invokevirtual 182, 3) := by decide +kernel
theorem dX6_next_12 : decode cX6_next 12 = .ok (.ifCond .ne 10, 3) := by decide +kernel
theorem dX6_next_15 : decode cX6_next 15 = .ok (.aload_n 0, 1) := by decide +kernel
theorem dX6_next_16 : decode cX6_next 16 = .ok (.bipush (-2), 2) := by decide +kernel
theorem dX6_next_18 : decode cX6_next 18 = .ok (.invokevirtual 61, 3) := by decide +kernel
theorem dX6_next_21 : decode cX6_next 21 = .ok (.ireturn, 1) := by decide +kernel
theorem dX6_run_0 : decode cX6_run 0 = .ok (.iload_n 1, 1) := by decide +kernel
theorem dX6_run_1 : decode cX6_run 1 = .ok (.invokestatic 53, 3) := by decide +kernel
theorem dX6_run_4 : decode cX6_run 4 = .ok (.ifCond .eq 31, 3) := by decide +kernel
theorem dX6_run_7 : decode cX6_run 7 = .ok (.aload_n 0, 1) := by decide +kernel
theorem dX6_run_8 : decode cX6_run 8 = .ok (.iload_n 2, 1) := by decide +kernel
theorem dX6_run_9 : decode cX6_run 9 = .ok (.invokevirtual 182, 3) := by decide +kernel
theorem dX6_run_12 : decode cX6_run 12 = .ok (.ifCond .eq 23, 3) := by decide +kernel
theorem dX6_run_35 : decode cX6_run 35 = .ok (.aload_n 0, 1) := by decide +kernel
theorem dX6_run_36 : decode cX6_run 36 = .ok (.bipush (-2), 2) := by decide +kernel
theorem dX6_run_38 : decode cX6_run 38 = .ok (.invokevirtual 61, 3) := by decide +kernel
theorem dX6_run_41 : decode cX6_run 41 = .ok (.ireturn, 1) := by decide +kernel
theorem dX6_head_0 : decode cX6_head 0 = .ok (.aload_n 0, 1) := by decide +kernel
theorem dX6_head_1 : decode cX6_head 1 = .ok (.iload_n 1, 1) := by decide +kernel
theorem dX6_head_2 : decode cX6_head 2 = .ok (.invokevirtual 182, 3) := by decide +kernel
theorem dX6_head_5 : decode cX6_head 5 = .ok (.ifCond .ne 10, 3) := by decide +kernel
theorem dX6_head_8 : decode cX6_head 8 = .ok (.aload_n 0, 1) := by decide +kernel
theorem dX6_head_9 : decode cX6_head 9 = .ok (.bipush (-2), 2) := by decide +kernel
theorem dX6_head_11 : decode cX6_head 11 = .ok (.invokevirtual 61, 3) := by decide +kernel
theorem dX6_head_14 : decode cX6_head 14 = .ok (.ireturn, 1) := by decide +kernel
theorem dX6_lives_0 : decode cX6_lives 0 = .ok (.iload_n 1, 1) := by decide +kernel
theorem dX6_lives_1 : decode cX6_lives 1 = .ok (.invokestatic 53, 3) := by decide +kernel
theorem dX6_lives_4 : decode cX6_lives 4 = .ok (.ifCond .eq 21, 3) := by decide +kernel
theorem dX6_lives_7 : decode cX6_lives 7 = .ok (.aload_n 0, 1) := by decide +kernel
theorem dX6_lives_8 : decode cX6_lives 8 = .ok (.iload_n 2, 1) := by decide +kernel
theorem dX6_lives_9 : decode cX6_lives 9 = .ok (.invokevirtual 182, 3) := by decide +kernel
theorem dX6_lives_12 : decode cX6_lives 12 = .ok (.ifCond .eq 13, 3) := by decide +kernel
theorem dX6_lives_25 : decode cX6_lives 25 = .ok (.aload_n 0, 1) := by decide +kernel
theorem dX6_lives_26 : decode cX6_lives 26 = .ok (.bipush (-2), 2) := by decide +kernel
theorem dX6_lives_28 : decode cX6_lives 28 = .ok (.invokevirtual 61, 3) := by decide +kernel
theorem dX6_lives_31 : decode cX6_lives 31 = .ok (.ireturn, 1) := by decide +kernel
theorem dX6_judge_0 : decode cX6_judge 0 = .ok (.aload_n 0, 1) := by decide +kernel
theorem dX6_judge_1 : decode cX6_judge 1 = .ok (.iload_n 1, 1) := by decide +kernel
theorem dX6_judge_2 : decode cX6_judge 2 = .ok (.invokevirtual 182, 3) := by decide +kernel
theorem dX6_judge_5 : decode cX6_judge 5 = .ok (.ifCond .eq 20, 3) := by decide +kernel
theorem dX6_judge_25 : decode cX6_judge 25 = .ok (.aload_n 0, 1) := by decide +kernel
theorem dX6_judge_26 : decode cX6_judge 26 = .ok (.bipush (-2), 2) := by decide +kernel
theorem dX6_judge_28 : decode cX6_judge 28 = .ok (.invokevirtual 61, 3) := by decide +kernel
theorem dX6_judge_31 : decode cX6_judge 31 = .ok (.ireturn, 1) := by decide +kernel
theorem dX6_told_0 : decode cX6_told 0 = .ok (.aload_n 0, 1) := by decide +kernel
theorem dX6_told_1 : decode cX6_told 1 = .ok (.iload_n 1, 1) := by decide +kernel
theorem dX6_told_2 : decode cX6_told 2 = .ok (.invokevirtual 182, 3) := by decide +kernel
theorem dX6_told_5 : decode cX6_told 5 = .ok (.ifCond .eq 30, 3) := by decide +kernel
theorem dX6_told_35 : decode cX6_told 35 = .ok (.aload_n 0, 1) := by decide +kernel
theorem dX6_told_36 : decode cX6_told 36 = .ok (.bipush (-2), 2) := by decide +kernel
theorem dX6_told_38 : decode cX6_told 38 = .ok (.invokevirtual 61, 3) := by decide +kernel
theorem dX6_told_41 : decode cX6_told 41 = .ok (.ireturn, 1) := by decide +kernel
theorem dX6_law_0 : decode cX6_law 0 = .ok (.aload_n 0, 1) := by decide +kernel
theorem dX6_law_1 : decode cX6_law 1 = .ok (.iload_n 1, 1) := by decide +kernel
theorem dX6_law_2 : decode cX6_law 2 = .ok (.invokevirtual 182, 3) := by decide +kernel
theorem dX6_law_5 : decode cX6_law 5 = .ok (.ifCond .eq 12, 3) := by decide +kernel
theorem dX6_law_17 : decode cX6_law 17 = .ok (.aload_n 0, 1) := by decide +kernel
theorem dX6_law_18 : decode cX6_law 18 = .ok (.bipush (-2), 2) := by decide +kernel
theorem dX6_law_20 : decode cX6_law 20 = .ok (.invokevirtual 61, 3) := by decide +kernel
theorem dX6_law_23 : decode cX6_law 23 = .ok (.ireturn, 1) := by decide +kernel
theorem dX6_all_0 : decode cX6_all 0 = .ok (.aload_n 0, 1) := by decide +kernel
theorem dX6_all_1 : decode cX6_all 1 = .ok (.iload_n 1, 1) := by decide +kernel
theorem dX6_all_2 : decode cX6_all 2 = .ok (.invokevirtual 182, 3) := by decide +kernel
theorem dX6_all_5 : decode cX6_all 5 = .ok (.ifCond .eq 30, 3) := by decide +kernel
theorem dX6_all_35 : decode cX6_all 35 = .ok (.aload_n 0, 1) := by decide +kernel
theorem dX6_all_36 : decode cX6_all 36 = .ok (.bipush (-2), 2) := by decide +kernel
theorem dX6_all_38 : decode cX6_all 38 = .ok (.invokevirtual 61, 3) := by decide +kernel
theorem dX6_all_41 : decode cX6_all 41 = .ok (.ireturn, 1) := by decide +kernel
theorem dX6_way_0 : decode cX6_way 0 = .ok (.aload_n 0, 1) := by decide +kernel
theorem dX6_way_1 : decode cX6_way 1 = .ok (.iload_n 1, 1) := by decide +kernel
theorem dX6_way_2 : decode cX6_way 2 = .ok (.invokevirtual 182, 3) := by decide +kernel
theorem dX6_way_5 : decode cX6_way 5 = .ok (.ifCond .eq 24, 3) := by decide +kernel
theorem dX6_way_29 : decode cX6_way 29 = .ok (.aload_n 0, 1) := by decide +kernel
theorem dX6_way_30 : decode cX6_way 30 = .ok (.bipush (-2), 2) := by decide +kernel
theorem dX6_way_32 : decode cX6_way 32 = .ok (.invokevirtual 61, 3) := by decide +kernel
theorem dX6_way_35 : decode cX6_way 35 = .ok (.ireturn, 1) := by decide +kernel
theorem dX6_lacks_0 : decode cX6_lacks 0 = .ok (.aload_n 0, 1) := by decide +kernel
theorem dX6_lacks_1 : decode cX6_lacks 1 = .ok (.iload_n 1, 1) := by decide +kernel
theorem dX6_lacks_2 : decode cX6_lacks 2 = .ok (.invokevirtual 182, 3) := by decide +kernel
theorem dX6_lacks_5 : decode cX6_lacks 5 = .ok (.ifCond .eq 21, 3) := by decide +kernel
theorem dX6_lacks_26 : decode cX6_lacks 26 = .ok (.aload_n 0, 1) := by decide +kernel
theorem dX6_lacks_27 : decode cX6_lacks 27 = .ok (.bipush (-2), 2) := by decide +kernel
theorem dX6_lacks_29 : decode cX6_lacks 29 = .ok (.invokevirtual 61, 3) := by decide +kernel
theorem dX6_lacks_32 : decode cX6_lacks 32 = .ok (.ireturn, 1) := by decide +kernel
theorem dX6_longest_0 : decode cX6_longest 0 = .ok (.aload_n 0, 1) := by decide +kernel
theorem dX6_longest_1 : decode cX6_longest 1 = .ok (.iload_n 1, 1) := by decide +kernel
theorem dX6_longest_2 : decode cX6_longest 2 = .ok (.invokevirtual 182, 3) := by decide +kernel
theorem dX6_longest_5 : decode cX6_longest 5 = .ok (.ifCond .eq 12, 3) := by decide +kernel
theorem dX6_longest_17 : decode cX6_longest 17 = .ok (.aload_n 0, 1) := by decide +kernel
theorem dX6_longest_18 : decode cX6_longest 18 = .ok (.bipush (-2), 2) := by decide +kernel
theorem dX6_longest_20 : decode cX6_longest 20 = .ok (.invokevirtual 61, 3) := by decide +kernel
theorem dX6_longest_23 : decode cX6_longest 23 = .ok (.ireturn, 1) := by decide +kernel
theorem dX6_errands_0 : decode cX6_errands 0 = .ok (.aload_n 0, 1) := by decide +kernel
theorem dX6_errands_1 : decode cX6_errands 1 = .ok (.iload_n 1, 1) := by decide +kernel
theorem dX6_errands_2 : decode cX6_errands 2 = .ok (.invokevirtual 182, 3) := by decide +kernel
theorem dX6_errands_5 : decode cX6_errands 5 = .ok (.ifCond .eq 22, 3) := by decide +kernel
theorem dX6_errands_27 : decode cX6_errands 27 = .ok (.aload_n 0, 1) := by decide +kernel
theorem dX6_errands_28 : decode cX6_errands 28 = .ok (.bipush (-2), 2) := by decide +kernel
theorem dX6_errands_30 : decode cX6_errands 30 = .ok (.invokevirtual 61, 3) := by decide +kernel
theorem dX6_errands_33 : decode cX6_errands 33 = .ok (.ireturn, 1) := by decide +kernel
theorem dX6_cut_0 : decode cX6_cut 0 = .ok (.aload_n 0, 1) := by decide +kernel
theorem dX6_cut_1 : decode cX6_cut 1 = .ok (.iload_n 1, 1) := by decide +kernel
theorem dX6_cut_2 : decode cX6_cut 2 = .ok (.invokevirtual 182, 3) := by decide +kernel
theorem dX6_cut_5 : decode cX6_cut 5 = .ok (.ifCond .eq 22, 3) := by decide +kernel
theorem dX6_cut_27 : decode cX6_cut 27 = .ok (.aload_n 0, 1) := by decide +kernel
theorem dX6_cut_28 : decode cX6_cut 28 = .ok (.bipush (-2), 2) := by decide +kernel
theorem dX6_cut_30 : decode cX6_cut 30 = .ok (.invokevirtual 61, 3) := by decide +kernel
theorem dX6_cut_33 : decode cX6_cut 33 = .ok (.ireturn, 1) := by decide +kernel
theorem dX6_meets_0 : decode cX6_meets 0 = .ok (.aload_n 0, 1) := by decide +kernel
theorem dX6_meets_1 : decode cX6_meets 1 = .ok (.iload_n 1, 1) := by decide +kernel
theorem dX6_meets_2 : decode cX6_meets 2 = .ok (.invokevirtual 182, 3) := by decide +kernel
theorem dX6_meets_5 : decode cX6_meets 5 = .ok (.ifCond .eq 20, 3) := by decide +kernel
theorem dX6_meets_25 : decode cX6_meets 25 = .ok (.aload_n 0, 1) := by decide +kernel
theorem dX6_meets_26 : decode cX6_meets 26 = .ok (.bipush (-2), 2) := by decide +kernel
theorem dX6_meets_28 : decode cX6_meets 28 = .ok (.invokevirtual 61, 3) := by decide +kernel
theorem dX6_meets_31 : decode cX6_meets 31 = .ok (.ireturn, 1) := by decide +kernel
theorem dX6_near_0 : decode cX6_near 0 = .ok (.aload_n 0, 1) := by decide +kernel
theorem dX6_near_1 : decode cX6_near 1 = .ok (.iload_n 1, 1) := by decide +kernel
theorem dX6_near_2 : decode cX6_near 2 = .ok (.invokevirtual 182, 3) := by decide +kernel
theorem dX6_near_5 : decode cX6_near 5 = .ok (.ifCond .eq 10, 3) := by decide +kernel
theorem dX6_near_15 : decode cX6_near 15 = .ok (.aload_n 0, 1) := by decide +kernel
theorem dX6_near_16 : decode cX6_near 16 = .ok (.bipush (-2), 2) := by decide +kernel
theorem dX6_near_18 : decode cX6_near 18 = .ok (.invokevirtual 61, 3) := by decide +kernel
theorem dX6_near_21 : decode cX6_near 21 = .ok (.ireturn, 1) := by decide +kernel
theorem dX6_together_0 : decode cX6_together 0 = .ok (.aload_n 0, 1) := by decide +kernel
theorem dX6_together_1 : decode cX6_together 1 = .ok (.iload_n 1, 1) := by decide +kernel
theorem dX6_together_2 : decode cX6_together 2 = .ok (.invokevirtual 182, 3) := by decide +kernel
theorem dX6_together_5 : decode cX6_together 5 = .ok (.ifCond .eq 25, 3) := by decide +kernel
theorem dX6_together_30 : decode cX6_together 30 = .ok (.aload_n 0, 1) := by decide +kernel
theorem dX6_together_31 : decode cX6_together 31 = .ok (.bipush (-2), 2) := by decide +kernel
theorem dX6_together_33 : decode cX6_together 33 = .ok (.invokevirtual 61, 3) := by decide +kernel
theorem dX6_together_36 : decode cX6_together 36 = .ok (.ireturn, 1) := by decide +kernel
theorem dX6_frees_0 : decode cX6_frees 0 = .ok (.aload_n 0, 1) := by decide +kernel
theorem dX6_frees_1 : decode cX6_frees 1 = .ok (.iload_n 1, 1) := by decide +kernel
theorem dX6_frees_2 : decode cX6_frees 2 = .ok (.invokevirtual 182, 3) := by decide +kernel
theorem dX6_frees_5 : decode cX6_frees 5 = .ok (.ifCond .ne 10, 3) := by decide +kernel
theorem dX6_frees_8 : decode cX6_frees 8 = .ok (.aload_n 0, 1) := by decide +kernel
theorem dX6_frees_9 : decode cX6_frees 9 = .ok (.bipush (-2), 2) := by decide +kernel
theorem dX6_frees_11 : decode cX6_frees 11 = .ok (.invokevirtual 61, 3) := by decide +kernel
theorem dX6_frees_14 : decode cX6_frees 14 = .ok (.ireturn, 1) := by decide +kernel
theorem dX6_send_0 : decode cX6_send 0 = .ok (.aload_n 0, 1) := by decide +kernel
theorem dX6_send_1 : decode cX6_send 1 = .ok (.iload_n 1, 1) := by decide +kernel
theorem dX6_send_2 : decode cX6_send 2 = .ok (.invokevirtual 182, 3) := by decide +kernel
theorem dX6_send_5 : decode cX6_send 5 = .ok (.ifCond .eq 11, 3) := by decide +kernel
theorem dX6_send_16 : decode cX6_send 16 = .ok (.aload_n 0, 1) := by decide +kernel
theorem dX6_send_17 : decode cX6_send 17 = .ok (.bipush (-2), 2) := by decide +kernel
theorem dX6_send_19 : decode cX6_send 19 = .ok (.invokevirtual 61, 3) := by decide +kernel
theorem dX6_send_22 : decode cX6_send 22 = .ok (.ireturn, 1) := by decide +kernel
theorem dX6_wander_0 : decode cX6_wander 0 = .ok (.aload_n 0, 1) := by decide +kernel
theorem dX6_wander_1 : decode cX6_wander 1 = .ok (.iload_n 1, 1) := by decide +kernel
theorem dX6_wander_2 : decode cX6_wander 2 = .ok (.invokevirtual 182, 3) := by decide +kernel
theorem dX6_wander_5 : decode cX6_wander 5 = .ok (.ifCond .eq 13, 3) := by decide +kernel
theorem dX6_wander_18 : decode cX6_wander 18 = .ok (.aload_n 0, 1) := by decide +kernel
theorem dX6_wander_19 : decode cX6_wander 19 = .ok (.bipush (-2), 2) := by decide +kernel
theorem dX6_wander_21 : decode cX6_wander 21 = .ok (.invokevirtual 61, 3) := by decide +kernel
theorem dX6_wander_24 : decode cX6_wander 24 = .ok (.ireturn, 1) := by decide +kernel
theorem dX6_year_0 : decode cX6_year 0 = .ok (.aload_n 0, 1) := by decide +kernel
theorem dX6_year_1 : decode cX6_year 1 = .ok (.getfield 10, 3) := by decide +kernel
theorem dX6_year_4 : decode cX6_year 4 = .ok (.dup, 1) := by decide +kernel
theorem dX6_year_5 : decode cX6_year 5 = .ok (.getfield 216, 3) := by decide +kernel
theorem dX6_year_8 : decode cX6_year 8 = .ok (.iconst 1, 1) := by decide +kernel
theorem dX6_year_9 : decode cX6_year 9 = .ok (.iadd, 1) := by decide +kernel
theorem dX6_year_10 : decode cX6_year 10 = .ok (.putfield 216, 3) := by decide +kernel
theorem dX6_year_13 : decode cX6_year 13 = .ok (.aload_n 0, 1) := by decide +kernel
theorem dX6_year_14 : decode cX6_year 14 = .ok (.getfield 10, 3) := by decide +kernel
theorem dX6_year_17 : decode cX6_year 17 = .ok (.getfield 216, 3) := by decide +kernel
theorem dX6_year_20 : decode cX6_year 20 = .ok (.ireturn, 1) := by decide +kernel
theorem dX6_fast_0 : decode cX6_fast 0 = .ok (.iconst 0, 1) := by decide +kernel
theorem dX6_fast_1 : decode cX6_fast 1 = .ok (.istore_n 2, 1) := by decide +kernel
theorem dX6_fast_2 : decode cX6_fast 2 = .ok (.iconst 0, 1) := by decide +kernel
theorem dX6_fast_3 : decode cX6_fast 3 = .ok (.istore_n 3, 1) := by decide +kernel
theorem dX6_fast_4 : decode cX6_fast 4 = .ok (.iload_n 3, 1) := by decide +kernel
theorem dX6_fast_5 : decode cX6_fast 5 = .ok (.aload_n 0, 1) := by decide +kernel
theorem dX6_fast_6 : decode cX6_fast 6 = .ok (.getfield 10, 3) := by decide +kernel
theorem dX6_fast_9 : decode cX6_fast 9 = .ok (.getfield 123, 3) := by decide +kernel
theorem dX6_fast_12 : decode cX6_fast 12 = .ok (.if_icmp .ge 61, 3) := by decide +kernel
theorem dX6_fast_73 : decode cX6_fast 73 = .ok (.iload_n 2, 1) := by decide +kernel
theorem dX6_fast_74 : decode cX6_fast 74 = .ok (.ireturn, 1) := by decide +kernel
theorem dX6_seed_0 : decode cX6_seed 0 = .ok (.aload_n 0, 1) := by decide +kernel
theorem dX6_seed_1 : decode cX6_seed 1 = .ok (.getfield 10, 3) := by decide +kernel
theorem dX6_seed_4 : decode cX6_seed 4 = .ok (.getfield 299, 3) := by decide +kernel
theorem dX6_seed_7 : decode cX6_seed 7 = .ok (.istore_n 2, 1) := by decide +kernel
theorem dX6_seed_8 : decode cX6_seed 8 = .ok (.aload_n 0, 1) := by decide +kernel
theorem dX6_seed_9 : decode cX6_seed 9 = .ok (.getfield 10, 3) := by decide +kernel
theorem dX6_seed_12 : decode cX6_seed 12 = .ok (.iload_n 1, 1) := by decide +kernel
theorem dX6_seed_13 : decode cX6_seed 13 = .ok (.putfield 299, 3) := by decide +kernel
theorem dX6_seed_16 : decode cX6_seed 16 = .ok (.iload_n 2, 1) := by decide +kernel
theorem dX6_seed_17 : decode cX6_seed 17 = .ok (.ireturn, 1) := by decide +kernel
theorem dX6_image_0 : decode cX6_image 0 = .ok (.aload_n 0, 1) := by decide +kernel
theorem dX6_image_1 : decode cX6_image 1 = .ok (.getfield 16, 3) := by decide +kernel
theorem dX6_image_4 : decode cX6_image 4 = .ok (.aload_n 0, 1) := by decide +kernel
theorem dX6_image_5 : decode cX6_image 5 = .ok (.getfield 10, 3) := by decide +kernel
theorem dX6_image_8 : decode cX6_image 8 = .ok (.invokevirtual 159, 3) := by decide +kernel
theorem dX6_image_11 : decode cX6_image 11 = .ok (.aload_n 0, 1) := by decide +kernel
theorem dX6_image_12 : decode cX6_image 12 = .ok (.iconst 1, 1) := by decide +kernel
theorem dX6_image_13 : decode cX6_image 13 = .ok (.putfield 302, 3) := by decide +kernel
theorem dX6_image_16 : decode cX6_image 16 = .ok (.iconst 1, 1) := by decide +kernel
theorem dX6_image_17 : decode cX6_image 17 = .ok (.ireturn, 1) := by decide +kernel
theorem dX6_back_0 : decode cX6_back 0 = .ok (.aload_n 0, 1) := by decide +kernel
theorem dX6_back_1 : decode cX6_back 1 = .ok (.getfield 302, 3) := by decide +kernel
theorem dX6_back_4 : decode cX6_back 4 = .ok (.ifCond .ne 10, 3) := by decide +kernel
theorem dX6_back_7 : decode cX6_back 7 = .ok (.aload_n 0, 1) := by decide +kernel
theorem dX6_back_8 : decode cX6_back 8 = .ok (.bipush (-5), 2) := by decide +kernel
theorem dX6_back_10 : decode cX6_back 10 = .ok (.invokevirtual 61, 3) := by decide +kernel
theorem dX6_back_13 : decode cX6_back 13 = .ok (.ireturn, 1) := by decide +kernel
theorem dX6_filledShelves_0 : decode cX6_filledShelves 0 = .ok (.iconst 0, 1) := by decide +kernel
theorem dX6_filledShelves_1 : decode cX6_filledShelves 1 = .ok (.istore_n 1, 1) := by decide +kernel
theorem dX6_filledShelves_2 : decode cX6_filledShelves 2 = .ok (.iconst 0, 1) := by decide +kernel
theorem dX6_filledShelves_3 : decode cX6_filledShelves 3 = .ok (.istore_n 2, 1) := by decide +kernel
theorem dX6_filledShelves_4 : decode cX6_filledShelves 4 = .ok (.iload_n 2, 1) := by decide +kernel
theorem dX6_filledShelves_5 : decode cX6_filledShelves 5 = .ok (.bipush 8, 2) := by decide +kernel
theorem dX6_filledShelves_7 : decode cX6_filledShelves 7 = .ok (.if_icmp .ge 24, 3) := by decide +kernel
theorem dX6_filledShelves_10 : decode cX6_filledShelves 10 = .ok (.aload_n 0, 1) := by decide +kernel
theorem dX6_filledShelves_11 : decode cX6_filledShelves 11 = .ok (.getfield 31, 3) := by decide +kernel
theorem dX6_filledShelves_14 : decode cX6_filledShelves 14 = .ok (.iload_n 2, 1) := by decide +kernel
theorem dX6_filledShelves_15 : decode cX6_filledShelves 15 = .ok (.aaload, 1) := by decide +kernel
theorem dX6_filledShelves_16 : decode cX6_filledShelves 16 = .ok (.invokevirtual 312, 3) := by decide +kernel
theorem dX6_filledShelves_19 : decode cX6_filledShelves 19 = .ok (.ifCond .ne 6, 3) := by decide +kernel
theorem dX6_filledShelves_25 : decode cX6_filledShelves 25 = .ok (.iinc 2 1, 3) := by decide +kernel
theorem dX6_filledShelves_28 : decode cX6_filledShelves 28 = .ok (.goto (-24), 3) := by decide +kernel
theorem dX6_filledShelves_31 : decode cX6_filledShelves 31 = .ok (.iload_n 1, 1) := by decide +kernel
theorem dX6_filledShelves_32 : decode cX6_filledShelves 32 = .ok (.ireturn, 1) := by decide +kernel
theorem dX6_status_0 : decode cX6_status 0 = .ok (.iload_n 1, 1) := by decide +kernel
theorem dX6_status_1 : decode cX6_status 1 = .ok (.tableswitch 123 0 8 #[51, 59, 67, 75, 83, 91, 99, 107, 112], 51) := by decide +kernel
theorem dX6_status_52 : decode cX6_status 52 = .ok (.aload_n 0, 1) := by decide +kernel
theorem dX6_status_53 : decode cX6_status 53 = .ok (.getfield 10, 3) := by decide +kernel
theorem dX6_status_56 : decode cX6_status 56 = .ok (.getfield 133, 3) := by decide +kernel
theorem dX6_status_59 : decode cX6_status 59 = .ok (.ireturn, 1) := by decide +kernel
theorem dX6_status_60 : decode cX6_status 60 = .ok (.aload_n 0, 1) := by decide +kernel
theorem dX6_status_61 : decode cX6_status 61 = .ok (.getfield 10, 3) := by decide +kernel
theorem dX6_status_64 : decode cX6_status 64 = .ok (.getfield 123, 3) := by decide +kernel
theorem dX6_status_67 : decode cX6_status 67 = .ok (.ireturn, 1) := by decide +kernel
theorem dX6_status_68 : decode cX6_status 68 = .ok (.aload_n 0, 1) := by decide +kernel
theorem dX6_status_69 : decode cX6_status 69 = .ok (.getfield 10, 3) := by decide +kernel
theorem dX6_status_72 : decode cX6_status 72 = .ok (.getfield 216, 3) := by decide +kernel
theorem dX6_status_75 : decode cX6_status 75 = .ok (.ireturn, 1) := by decide +kernel
theorem dX6_status_76 : decode cX6_status 76 = .ok (.aload_n 0, 1) := by decide +kernel
theorem dX6_status_77 : decode cX6_status 77 = .ok (.getfield 10, 3) := by decide +kernel
theorem dX6_status_80 : decode cX6_status 80 = .ok (.getfield 152, 3) := by decide +kernel
theorem dX6_status_83 : decode cX6_status 83 = .ok (.ireturn, 1) := by decide +kernel
theorem dX6_status_84 : decode cX6_status 84 = .ok (.aload_n 0, 1) := by decide +kernel
theorem dX6_status_85 : decode cX6_status 85 = .ok (.getfield 10, 3) := by decide +kernel
theorem dX6_status_88 : decode cX6_status 88 = .ok (.invokevirtual 306, 3) := by decide +kernel
theorem dX6_status_91 : decode cX6_status 91 = .ok (.ireturn, 1) := by decide +kernel
theorem dX6_status_92 : decode cX6_status 92 = .ok (.aload_n 0, 1) := by decide +kernel
theorem dX6_status_93 : decode cX6_status 93 = .ok (.getfield 25, 3) := by decide +kernel
theorem dX6_status_96 : decode cX6_status 96 = .ok (.getfield 155, 3) := by decide +kernel
theorem dX6_status_99 : decode cX6_status 99 = .ok (.ireturn, 1) := by decide +kernel
theorem dX6_status_100 : decode cX6_status 100 = .ok (.aload_n 0, 1) := by decide +kernel
theorem dX6_status_101 : decode cX6_status 101 = .ok (.getfield 10, 3) := by decide +kernel
theorem dX6_status_104 : decode cX6_status 104 = .ok (.getfield 299, 3) := by decide +kernel
theorem dX6_status_107 : decode cX6_status 107 = .ok (.ireturn, 1) := by decide +kernel
theorem dX6_status_108 : decode cX6_status 108 = .ok (.aload_n 0, 1) := by decide +kernel
theorem dX6_status_109 : decode cX6_status 109 = .ok (.invokevirtual 309, 3) := by decide +kernel
theorem dX6_status_112 : decode cX6_status 112 = .ok (.ireturn, 1) := by decide +kernel
theorem dX6_status_113 : decode cX6_status 113 = .ok (.aload_n 0, 1) := by decide +kernel
theorem dX6_status_114 : decode cX6_status 114 = .ok (.getfield 10, 3) := by decide +kernel
theorem dX6_status_117 : decode cX6_status 117 = .ok (.getfield 146, 3) := by decide +kernel
theorem dX6_status_120 : decode cX6_status 120 = .ok (.invokestatic 247, 3) := by decide +kernel
theorem dX6_status_123 : decode cX6_status 123 = .ok (.ireturn, 1) := by decide +kernel
theorem dX6_status_124 : decode cX6_status 124 = .ok (.iload_n 1, 1) := by decide +kernel
theorem dX6_status_125 : decode cX6_status 125 = .ok (.bipush 12, 2) := by decide +kernel
theorem dX6_status_127 : decode cX6_status 127 = .ok (.bipush 16, 2) := by decide +kernel
theorem dX6_status_129 : decode cX6_status 129 = .ok (.invokestatic 57, 3) := by decide +kernel
theorem dX6_status_132 : decode cX6_status 132 = .ok (.ifCond .eq 15, 3) := by decide +kernel
theorem dX6_status_135 : decode cX6_status 135 = .ok (.aload_n 0, 1) := by decide +kernel
theorem dX6_status_136 : decode cX6_status 136 = .ok (.getfield 49, 3) := by decide +kernel
theorem dX6_status_139 : decode cX6_status 139 = .ok (.iload_n 1, 1) := by decide +kernel
theorem dX6_status_140 : decode cX6_status 140 = .ok (.bipush 12, 2) := by decide +kernel
theorem dX6_status_142 : decode cX6_status 142 = .ok (.isub, 1) := by decide +kernel
theorem dX6_status_143 : decode cX6_status 143 = .ok (.iaload, 1) := by decide +kernel
theorem dX6_status_144 : decode cX6_status 144 = .ok (.goto 4, 3) := by decide +kernel
theorem dX6_status_147 : decode cX6_status 147 = .ok (.iconst (-1), 1) := by decide +kernel
theorem dX6_status_148 : decode cX6_status 148 = .ok (.ireturn, 1) := by decide +kernel
theorem gx_4 {v : Int32} (h : gx_b v 1 4 = true) : v = 1 ∨ v = 2 ∨ v = 3 ∨ v = 4 := by
  simp only [gx_b, decide_eq_true_eq, Int32.le_iff_toInt_le] at h
  simp only [← Int32.toInt_inj]
  have h1 : (1 : Int32).toInt = 1 := by decide
  have h2 : (2 : Int32).toInt = 2 := by decide
  have h3 : (3 : Int32).toInt = 3 := by decide
  have h4 : (4 : Int32).toInt = 4 := by decide
  omega
theorem gx_b08 {x : Int32} (h0 : ¬ x = 0) (h1 : ¬ x = 1) (h2 : ¬ x = 2) (h3 : ¬ x = 3) (h4 : ¬ x = 4) (h5 : ¬ x = 5) (h6 : ¬ x = 6) (h7 : ¬ x = 7) (h8 : ¬ x = 8) : gx_b x 0 8 = false := by
  have h := gx_out9 h0 h1 h2 h3 h4 h5 h6 h7 h8
  simp only [gx_b, decide_eq_false_iff_not, Int32.le_iff_toInt_le]
  have e0 : (0 : Int32).toInt = 0 := by decide
  have e8 : (8 : Int32).toInt = 8 := by decide
  omega
theorem gx_v12 {v : Int32} (h : gx_b v 12 16 = true) : vp_in (v - 12) 5 := by
  have hv : v = 12 ∨ v = 13 ∨ v = 14 ∨ v = 15 ∨ v = 16 := by
    simp only [gx_b, decide_eq_true_eq, Int32.le_iff_toInt_le] at h
    simp only [← Int32.toInt_inj]
    have h1 : (12 : Int32).toInt = 12 := by decide
    have h2 : (13 : Int32).toInt = 13 := by decide
    have h3 : (14 : Int32).toInt = 14 := by decide
    have h4 : (15 : Int32).toInt = 15 := by decide
    have h5 : (16 : Int32).toInt = 16 := by decide
    omega
  rcases hv with rfl | rfl | rfl | rfl | rfl <;> exact gx_vin (by decide)
def gs_row (sv : Int32) (so : Int32) (nv : Int32) : Int32 := if gx_b sv 0 7 && gx_b so 0 4 && gx_b nv 0 40 then 1 else -2
def gs_set (sv : Int32) : Int32 := if gx_b sv 0 7 then -4 else -2
def gs_copy (pv : Int32) (qv : Int32) : Int32 := if gx_b pv 0 7 && gx_b qv 0 7 then -4 else -2
def gs_rule (sv : Int32) (kv : Int32) (av : Int32) : Int32 := if gx_b sv 0 7 && gx_b kv 1 6 && gx_b av 0 99 then 1 else -2
def gs_says (sv : Int32) (kv : Int32) : Int32 := if gx_b sv 0 7 && gx_b kv 0 6 then -4 else -2
def gs_road (fv : Int32) (tv : Int32) (mv : Int32) : Int32 := if gx_b fv 0 7 && gx_b tv 0 7 && gx_b mv 1 60 && !decide (fv = tv) then 0 else -2
def gs_one (hv : Int32) : Int32 := if gx_b hv 0 7 then 0 else -2
def gs_anew (nv : Int32) : Int32 := if gx_b nv 0 99 then 0 else -2
def gs_feed (nv : Int32) : Int32 := if gx_b nv 1 4 then nv else -2
def gs_status (wv : Int32) : Int32 := if wv = 6 then 1 else if gx_b wv 0 8 || gx_b wv 12 16 then 0 else -1
set_option maxHeartbeats 4000000 in
set_option maxRecDepth 100000 in
theorem x_row (l : Launch) (D : va_G) (k : Nat → ClassId) (ad : Nat → Nat) (fs : Nat → Option Nat) (a : Nat) (el : Nat) (sv : Int32) (so : Int32) (nv : Int32) (hf : gx_b sv 0 7 = true → fs sv.toNatClampNeg = some a) (sz : Nat) : Met l yX6_row (.code yX6_row cX6_row 4 (some .int) :: gx_T) ({ frames := 2, cells := 0, slots := 0, locals := 46 }) (gx_Pre D k [.ref (ad 0), .int sv, .int so, .int nv] ([((ad 0), .inr (4, [.ref (ad 1), .ref (ad 2), .ref (ad 3), .ref (ad 4), .ref (ad 5), .ref (ad 6), .ref (ad 7), .ref (ad 8), .ref (ad 9), .int 0])), ((ad 9), .inl (k 0, 5, .inl (fun _ => 0))), ((ad 5), .inl (k 2, 8, .inr (.inr (.inr (.inr fs))))), (a, .inr (1, [.ref el, .int 0, .int 0, .int (-1)])), (el, .inl (k 1, 40, .inr (.inl (fun _ => 0))))]) sz) (gx_Qi D (fun (r : Int32) (u : Unit) => r = (gs_row sv so nv)) (fun (u : Unit) => ([] : va_W)) (va_A ([((ad 0), .inr (4, [.ref (ad 1), .ref (ad 2), .ref (ad 3), .ref (ad 4), .ref (ad 5), .ref (ad 6), .ref (ad 7), .ref (ad 8), .ref (ad 9), .int 0])), ((ad 9), .inl (k 0, 5, .inl (fun _ => 0))), ((ad 5), .inl (k 2, 8, .inr (.inr (.inr (.inr fs))))), (a, .inr (1, [.ref el, .int 0, .int 0, .int (-1)])), (el, .inl (k 1, 40, .inr (.inl (fun _ => 0))))]) sz)) 0 0 (va_A ([((ad 0), .inr (4, [.ref (ad 1), .ref (ad 2), .ref (ad 3), .ref (ad 4), .ref (ad 5), .ref (ad 6), .ref (ad 7), .ref (ad 8), .ref (ad 9), .int 0])), ((ad 9), .inl (k 0, 5, .inl (fun _ => 0))), ((ad 5), .inl (k 2, 8, .inr (.inr (.inr (.inr fs))))), (a, .inr (1, [.ref el, .int 0, .int 0, .int (-1)])), (el, .inl (k 1, 40, .inr (.inl (fun _ => 0))))]) sz) := by
  refine gx_metE (Qc := fun A => gx_Qi D (fun (r : Int32) (u : Unit) => r = (gs_row sv so nv)) (fun (u : Unit) => ([] : va_W)) A) (y := yX6_row) (cc := cX6_row) (n := 4) (ret := (some .int)) (av := [.ref (ad 0), .int sv, .int so, .int nv]) (by decide) (Nat.le_of_ble_eq_true rfl) ?_
  intro p e s m below meth c A ls C hA hP hD hK hS hl
  obtain ⟨hx, hb, hr, hml, hown, hT, hlk, hin⟩ := id C
  have hown : s.vm.findClass RX6 = some m.cls := hown
  have hl : lv_has ls 4 [(0, .ref (ad 0)), (1, .int sv), (2, .int so), (3, .int nv)] := hl
  refine lv_iload_n hx hb dX6_row_0 rfl (lv_at hl 1 rfl) ?_
  refine gx_pi hP hS (gx_runS (na := 1) (As := [.int sv]) (rest := []) C hl.1 hK (gx_subP (wc := ([] : va_W)) hP [] rfl) ((hD.sub (ws' := ([] : va_W)) [] (by decide) rfl).weaken (fun _ _ _ _ => trivial)) (k_isShelf l D k sv _) gS_RX6_53 (by decide +kernel) rfl rfl ⟨Nat.le_of_ble_eq_true rfl, Nat.le_of_ble_eq_true rfl⟩ rfl rfl (Nat.le_of_ble_eq_true rfl) dX6_row_1 ⟨Nat.le_of_ble_eq_true rfl, Nat.le_of_ble_eq_true rfl⟩) (fun r_2 H locs pc_1 hP hS => ?_)
  have oc_1 : r_2 = 1 ∧ gx_b sv 0 7 = true ∨ r_2 = 0 ∧ gx_b sv 0 7 = false := pc_1
  clear pc_1
  rcases oc_1 with ⟨rfl, c_1⟩ | ⟨rfl, c_1⟩
  · refine lv_if_eq (tgt := 26) hx hb dX6_row_4 (by decide) (fun c_3 => absurd c_3 (by decide)) (fun c_3 => ?_)
    refine lv_iload_n hx hb dX6_row_7 rfl (lv_at hl 2 rfl) ?_
    refine lv_iconst (v := 0) hx hb dX6_row_8 (by decide) ?_
    refine lv_iconst (v := 4) hx hb dX6_row_9 (by decide) ?_
    refine gx_pi hP hS (gx_runS (na := 3) (As := [.int so, .int 0, .int 4]) (rest := []) C hl.1 hK (gx_subP (wc := ([] : va_W)) hP [] rfl) ((hD.sub (ws' := ([] : va_W)) [] (by decide) rfl).weaken (fun _ _ _ _ => trivial)) (k_isBetween l D k so 0 4 _) gS_RX6_57 (by decide +kernel) rfl rfl ⟨Nat.le_of_ble_eq_true rfl, Nat.le_of_ble_eq_true rfl⟩ rfl rfl (Nat.le_of_ble_eq_true rfl) dX6_row_10 ⟨Nat.le_of_ble_eq_true rfl, Nat.le_of_ble_eq_true rfl⟩) (fun r_5 H locs pc_4 hP hS => ?_)
    have oc_4 : r_5 = 1 ∧ gx_b so 0 4 = true ∨ r_5 = 0 ∧ gx_b so 0 4 = false := pc_4
    clear pc_4
    rcases oc_4 with ⟨rfl, c_4⟩ | ⟨rfl, c_4⟩
    · refine lv_if_eq (tgt := 26) hx hb dX6_row_13 (by decide) (fun c_6 => absurd c_6 (by decide)) (fun c_6 => ?_)
      refine lv_iload_n hx hb dX6_row_16 rfl (lv_at hl 3 rfl) ?_
      refine lv_iconst (v := 0) hx hb dX6_row_17 (by decide) ?_
      refine lv_bipush (v := 40) hx hb dX6_row_18 (by decide) ?_
      refine gx_pi hP hS (gx_runS (na := 3) (As := [.int nv, .int 0, .int 40]) (rest := []) C hl.1 hK (gx_subP (wc := ([] : va_W)) hP [] rfl) ((hD.sub (ws' := ([] : va_W)) [] (by decide) rfl).weaken (fun _ _ _ _ => trivial)) (k_isBetween l D k nv 0 40 _) gS_RX6_57 (by decide +kernel) rfl rfl ⟨Nat.le_of_ble_eq_true rfl, Nat.le_of_ble_eq_true rfl⟩ rfl rfl (Nat.le_of_ble_eq_true rfl) dX6_row_20 ⟨Nat.le_of_ble_eq_true rfl, Nat.le_of_ble_eq_true rfl⟩) (fun r_8 H locs pc_7 hP hS => ?_)
      have oc_7 : r_8 = 1 ∧ gx_b nv 0 40 = true ∨ r_8 = 0 ∧ gx_b nv 0 40 = false := pc_7
      clear pc_7
      rcases oc_7 with ⟨rfl, c_7⟩ | ⟨rfl, c_7⟩
      · refine lv_if_ne (tgt := 33) hx hb dX6_row_23 (by decide) (fun c_9 => ?_) (fun c_9 => absurd c_9 (by decide))
        refine lv_aload_n hx hb dX6_row_33 rfl (lv_at hl 0 rfl) ?_
        refine va_get (D := D) (ci := 4) (v := .ref (ad 5)) (C := RX6) (T := TX6) (N := 10) hx hb hT iw_TX6 hown hK.1 hP 0 rfl rfl 4 (by decide) (hT _ wd_275) (fun _ h9 => h9) rfl dX6_row_34 ?_
        refine lv_iload_n hx hb dX6_row_37 rfl (lv_at hl 1 rfl) ?_
        refine va_aldq hx hb hK.1 hP 2 2 rfl rfl (gx_vb c_1 (by decide) (by decide)) dX6_row_38 ?_
        refine gx_csr (v := .ref a) (congrArg va_rf (hf c_1)) ?_
        refine lv_iload_n hx hb dX6_row_39 rfl (lv_at hl 2 rfl) ?_
        refine lv_iload_n hx hb dX6_row_40 rfl (lv_at hl 3 rfl) ?_
        refine gx_ev (wc := ([(a, .inr (1, [.ref el, .int 0, .int 0, .int (-1)])), (el, .inl (k 1, 40, .inr (.inl (fun _ => 0))))] : va_W)) (wr := [((ad 0), .inr (4, [.ref (ad 1), .ref (ad 2), .ref (ad 3), .ref (ad 4), .ref (ad 5), .ref (ad 6), .ref (ad 7), .ref (ad 8), .ref (ad 9), .int 0])), ((ad 9), .inl (k 0, 5, .inl (fun _ => 0))), ((ad 5), .inl (k 2, 8, .inr (.inr (.inr (.inr fs)))))]) (isC := [3, 4]) (isR := [0, 1, 2]) hP hD hS hA rfl rfl (by decide) (by decide) (gx_runV (na := 2) (As := [.int so, .int nv]) (rest := []) (ci := 1) C hl.1 hK (gx_subP (wc := ([(a, .inr (1, [.ref el, .int 0, .int 0, .int (-1)])), (el, .inl (k 1, 40, .inr (.inl (fun _ => 0))))] : va_W)) hP [3, 4] rfl) ((hD.sub (ws' := ([(a, .inr (1, [.ref el, .int 0, .int 0, .int (-1)])), (el, .inl (k 1, 40, .inr (.inl (fun _ => 0))))] : va_W)) [3, 4] (by decide) rfl).weaken (fun _ _ _ _ => trivial)) (k_becomeRow l D k a el so nv _) gV_RX6_65 (by decide +kernel) rfl rfl ⟨Nat.le_of_ble_eq_true rfl, Nat.le_of_ble_eq_true rfl⟩ rfl rfl rfl rfl (Nat.le_of_ble_eq_true rfl) dX6_row_41 ⟨Nat.le_of_ble_eq_true rfl, Nat.le_of_ble_eq_true rfl⟩) (fun u_10 H locs h_11 hP hD hS => ?_)
        have hP : va_P D gx_cl [((ad 0), .inr (4, [.ref (ad 1), .ref (ad 2), .ref (ad 3), .ref (ad 4), .ref (ad 5), .ref (ad 6), .ref (ad 7), .ref (ad 8), .ref (ad 9), .int 0])), ((ad 9), .inl (k 0, 5, .inl (fun _ => 0))), ((ad 5), .inl (k 2, 8, .inr (.inr (.inr (.inr fs)))))] H := hP
        have hD : va_D A [((ad 0), .inr (4, [.ref (ad 1), .ref (ad 2), .ref (ad 3), .ref (ad 4), .ref (ad 5), .ref (ad 6), .ref (ad 7), .ref (ad 8), .ref (ad 9), .int 0])), ((ad 9), .inl (k 0, 5, .inl (fun _ => 0))), ((ad 5), .inl (k 2, 8, .inr (.inr (.inr (.inr fs)))))] := hD
        refine lv_iconst (v := 1) hx hb dX6_row_44 (by decide) ?_
        exact gx_retI C (u := ()) gx_nil gx_noneD hS (by simp [gs_row, c_1, c_4, c_7]) dX6_row_45
      · refine lv_if_ne (tgt := 33) hx hb dX6_row_23 (by decide) (fun c_14 => absurd (by decide) c_14) (fun c_14 => ?_)
        refine lv_aload_n hx hb dX6_row_26 rfl (lv_at hl 0 rfl) ?_
        refine lv_bipush (v := (-2)) hx hb dX6_row_27 (by decide) ?_
        refine gx_ei (wc := ([((ad 0), .inr (4, [.ref (ad 1), .ref (ad 2), .ref (ad 3), .ref (ad 4), .ref (ad 5), .ref (ad 6), .ref (ad 7), .ref (ad 8), .ref (ad 9), .int 0])), ((ad 9), .inl (k 0, 5, .inl (fun _ => 0)))] : va_W)) (wr := [((ad 5), .inl (k 2, 8, .inr (.inr (.inr (.inr fs))))), (a, .inr (1, [.ref el, .int 0, .int 0, .int (-1)])), (el, .inl (k 1, 40, .inr (.inl (fun _ => 0))))]) (isC := [0, 1]) (isR := [2, 3, 4]) hP hD hS hA rfl rfl (by decide) (by decide) (gx_runV (na := 1) (As := [.int (-2)]) (rest := []) (ci := 4) C hl.1 hK (gx_subP (wc := ([((ad 0), .inr (4, [.ref (ad 1), .ref (ad 2), .ref (ad 3), .ref (ad 4), .ref (ad 5), .ref (ad 6), .ref (ad 7), .ref (ad 8), .ref (ad 9), .int 0])), ((ad 9), .inl (k 0, 5, .inl (fun _ => 0)))] : va_W)) hP [0, 1] rfl) ((hD.sub (ws' := ([((ad 0), .inr (4, [.ref (ad 1), .ref (ad 2), .ref (ad 3), .ref (ad 4), .ref (ad 5), .ref (ad 6), .ref (ad 7), .ref (ad 8), .ref (ad 9), .int 0])), ((ad 9), .inl (k 0, 5, .inl (fun _ => 0)))] : va_W)) [0, 1] (by decide) rfl).weaken (fun _ _ _ _ => trivial)) (k_refuse2 l D k ad _) gV_RX6_61 (by decide +kernel) rfl rfl ⟨Nat.le_of_ble_eq_true rfl, Nat.le_of_ble_eq_true rfl⟩ rfl rfl rfl rfl (Nat.le_of_ble_eq_true rfl) dX6_row_29 ⟨Nat.le_of_ble_eq_true rfl, Nat.le_of_ble_eq_true rfl⟩) (fun r_17 u_15 H locs h_16 hP hD hS => ?_)
        have h_16 : r_17 = -2 := h_16
        have hP : va_P D gx_cl [((ad 5), .inl (k 2, 8, .inr (.inr (.inr (.inr fs))))), (a, .inr (1, [.ref el, .int 0, .int 0, .int (-1)])), (el, .inl (k 1, 40, .inr (.inl (fun _ => 0))))] H := hP
        have hD : va_D A [((ad 5), .inl (k 2, 8, .inr (.inr (.inr (.inr fs))))), (a, .inr (1, [.ref el, .int 0, .int 0, .int (-1)])), (el, .inl (k 1, 40, .inr (.inl (fun _ => 0))))] := hD
        have eh_16 := h_16
        subst eh_16
        exact gx_retI C (u := ()) gx_nil gx_noneD hS (by simp [gs_row, c_1, c_4, c_7]) dX6_row_32
    · refine lv_if_eq (tgt := 26) hx hb dX6_row_13 (by decide) (fun c_19 => ?_) (fun c_19 => absurd (by decide) c_19)
      refine lv_aload_n hx hb dX6_row_26 rfl (lv_at hl 0 rfl) ?_
      refine lv_bipush (v := (-2)) hx hb dX6_row_27 (by decide) ?_
      refine gx_ei (wc := ([((ad 0), .inr (4, [.ref (ad 1), .ref (ad 2), .ref (ad 3), .ref (ad 4), .ref (ad 5), .ref (ad 6), .ref (ad 7), .ref (ad 8), .ref (ad 9), .int 0])), ((ad 9), .inl (k 0, 5, .inl (fun _ => 0)))] : va_W)) (wr := [((ad 5), .inl (k 2, 8, .inr (.inr (.inr (.inr fs))))), (a, .inr (1, [.ref el, .int 0, .int 0, .int (-1)])), (el, .inl (k 1, 40, .inr (.inl (fun _ => 0))))]) (isC := [0, 1]) (isR := [2, 3, 4]) hP hD hS hA rfl rfl (by decide) (by decide) (gx_runV (na := 1) (As := [.int (-2)]) (rest := []) (ci := 4) C hl.1 hK (gx_subP (wc := ([((ad 0), .inr (4, [.ref (ad 1), .ref (ad 2), .ref (ad 3), .ref (ad 4), .ref (ad 5), .ref (ad 6), .ref (ad 7), .ref (ad 8), .ref (ad 9), .int 0])), ((ad 9), .inl (k 0, 5, .inl (fun _ => 0)))] : va_W)) hP [0, 1] rfl) ((hD.sub (ws' := ([((ad 0), .inr (4, [.ref (ad 1), .ref (ad 2), .ref (ad 3), .ref (ad 4), .ref (ad 5), .ref (ad 6), .ref (ad 7), .ref (ad 8), .ref (ad 9), .int 0])), ((ad 9), .inl (k 0, 5, .inl (fun _ => 0)))] : va_W)) [0, 1] (by decide) rfl).weaken (fun _ _ _ _ => trivial)) (k_refuse2 l D k ad _) gV_RX6_61 (by decide +kernel) rfl rfl ⟨Nat.le_of_ble_eq_true rfl, Nat.le_of_ble_eq_true rfl⟩ rfl rfl rfl rfl (Nat.le_of_ble_eq_true rfl) dX6_row_29 ⟨Nat.le_of_ble_eq_true rfl, Nat.le_of_ble_eq_true rfl⟩) (fun r_22 u_20 H locs h_21 hP hD hS => ?_)
      have h_21 : r_22 = -2 := h_21
      have hP : va_P D gx_cl [((ad 5), .inl (k 2, 8, .inr (.inr (.inr (.inr fs))))), (a, .inr (1, [.ref el, .int 0, .int 0, .int (-1)])), (el, .inl (k 1, 40, .inr (.inl (fun _ => 0))))] H := hP
      have hD : va_D A [((ad 5), .inl (k 2, 8, .inr (.inr (.inr (.inr fs))))), (a, .inr (1, [.ref el, .int 0, .int 0, .int (-1)])), (el, .inl (k 1, 40, .inr (.inl (fun _ => 0))))] := hD
      have eh_21 := h_21
      subst eh_21
      exact gx_retI C (u := ()) gx_nil gx_noneD hS (by simp [gs_row, c_1, c_4]) dX6_row_32
  · refine lv_if_eq (tgt := 26) hx hb dX6_row_4 (by decide) (fun c_24 => ?_) (fun c_24 => absurd (by decide) c_24)
    refine lv_aload_n hx hb dX6_row_26 rfl (lv_at hl 0 rfl) ?_
    refine lv_bipush (v := (-2)) hx hb dX6_row_27 (by decide) ?_
    refine gx_ei (wc := ([((ad 0), .inr (4, [.ref (ad 1), .ref (ad 2), .ref (ad 3), .ref (ad 4), .ref (ad 5), .ref (ad 6), .ref (ad 7), .ref (ad 8), .ref (ad 9), .int 0])), ((ad 9), .inl (k 0, 5, .inl (fun _ => 0)))] : va_W)) (wr := [((ad 5), .inl (k 2, 8, .inr (.inr (.inr (.inr fs))))), (a, .inr (1, [.ref el, .int 0, .int 0, .int (-1)])), (el, .inl (k 1, 40, .inr (.inl (fun _ => 0))))]) (isC := [0, 1]) (isR := [2, 3, 4]) hP hD hS hA rfl rfl (by decide) (by decide) (gx_runV (na := 1) (As := [.int (-2)]) (rest := []) (ci := 4) C hl.1 hK (gx_subP (wc := ([((ad 0), .inr (4, [.ref (ad 1), .ref (ad 2), .ref (ad 3), .ref (ad 4), .ref (ad 5), .ref (ad 6), .ref (ad 7), .ref (ad 8), .ref (ad 9), .int 0])), ((ad 9), .inl (k 0, 5, .inl (fun _ => 0)))] : va_W)) hP [0, 1] rfl) ((hD.sub (ws' := ([((ad 0), .inr (4, [.ref (ad 1), .ref (ad 2), .ref (ad 3), .ref (ad 4), .ref (ad 5), .ref (ad 6), .ref (ad 7), .ref (ad 8), .ref (ad 9), .int 0])), ((ad 9), .inl (k 0, 5, .inl (fun _ => 0)))] : va_W)) [0, 1] (by decide) rfl).weaken (fun _ _ _ _ => trivial)) (k_refuse2 l D k ad _) gV_RX6_61 (by decide +kernel) rfl rfl ⟨Nat.le_of_ble_eq_true rfl, Nat.le_of_ble_eq_true rfl⟩ rfl rfl rfl rfl (Nat.le_of_ble_eq_true rfl) dX6_row_29 ⟨Nat.le_of_ble_eq_true rfl, Nat.le_of_ble_eq_true rfl⟩) (fun r_27 u_25 H locs h_26 hP hD hS => ?_)
    have h_26 : r_27 = -2 := h_26
    have hP : va_P D gx_cl [((ad 5), .inl (k 2, 8, .inr (.inr (.inr (.inr fs))))), (a, .inr (1, [.ref el, .int 0, .int 0, .int (-1)])), (el, .inl (k 1, 40, .inr (.inl (fun _ => 0))))] H := hP
    have hD : va_D A [((ad 5), .inl (k 2, 8, .inr (.inr (.inr (.inr fs))))), (a, .inr (1, [.ref el, .int 0, .int 0, .int (-1)])), (el, .inl (k 1, 40, .inr (.inl (fun _ => 0))))] := hD
    have eh_26 := h_26
    subst eh_26
    exact gx_retI C (u := ()) gx_nil gx_noneD hS (by simp [gs_row, c_1]) dX6_row_32
set_option maxHeartbeats 4000000 in
set_option maxRecDepth 100000 in
theorem x_set (l : Launch) (D : va_G) (k : Nat → ClassId) (ad : Nat → Nat) (fs : Nat → Option Nat) (a : Nat) (el : Nat) (sv : Int32) (iv : Int32) (lv : Int64) (hf : gx_b sv 0 7 = true → fs sv.toNatClampNeg = some a) (sz : Nat) : Met l yX6_set (.code yX6_set cX6_set 6 (some .int) :: gx_T) ({ frames := 2, cells := 0, slots := 0, locals := 43 }) (gx_Pre D k [.ref (ad 0), .int sv, .int iv, .long lv] ([((ad 0), .inr (4, [.ref (ad 1), .ref (ad 2), .ref (ad 3), .ref (ad 4), .ref (ad 5), .ref (ad 6), .ref (ad 7), .ref (ad 8), .ref (ad 9), .int 0])), ((ad 9), .inl (k 0, 5, .inl (fun _ => 0))), ((ad 5), .inl (k 2, 8, .inr (.inr (.inr (.inr fs))))), (a, .inr (1, [.ref el, .int 0, .int 0, .int (-1)]))]) sz) (gx_Qi D (fun (r : Int32) (u : Unit) => r = (gs_set sv)) (fun (u : Unit) => ([] : va_W)) (va_A ([((ad 0), .inr (4, [.ref (ad 1), .ref (ad 2), .ref (ad 3), .ref (ad 4), .ref (ad 5), .ref (ad 6), .ref (ad 7), .ref (ad 8), .ref (ad 9), .int 0])), ((ad 9), .inl (k 0, 5, .inl (fun _ => 0))), ((ad 5), .inl (k 2, 8, .inr (.inr (.inr (.inr fs))))), (a, .inr (1, [.ref el, .int 0, .int 0, .int (-1)]))]) sz)) 0 0 (va_A ([((ad 0), .inr (4, [.ref (ad 1), .ref (ad 2), .ref (ad 3), .ref (ad 4), .ref (ad 5), .ref (ad 6), .ref (ad 7), .ref (ad 8), .ref (ad 9), .int 0])), ((ad 9), .inl (k 0, 5, .inl (fun _ => 0))), ((ad 5), .inl (k 2, 8, .inr (.inr (.inr (.inr fs))))), (a, .inr (1, [.ref el, .int 0, .int 0, .int (-1)]))]) sz) := by
  refine gx_metE (Qc := fun A => gx_Qi D (fun (r : Int32) (u : Unit) => r = (gs_set sv)) (fun (u : Unit) => ([] : va_W)) A) (y := yX6_set) (cc := cX6_set) (n := 6) (ret := (some .int)) (av := [.ref (ad 0), .int sv, .int iv, .long lv]) (by decide) (Nat.le_of_ble_eq_true rfl) ?_
  intro p e s m below meth c A ls C hA hP hD hK hS hl
  obtain ⟨hx, hb, hr, hml, hown, hT, hlk, hin⟩ := id C
  have hown : s.vm.findClass RX6 = some m.cls := hown
  have hl : lv_has ls 6 [(0, .ref (ad 0)), (1, .int sv), (2, .int iv), (3, .long lv)] := hl
  refine lv_iload_n hx hb dX6_set_0 rfl (lv_at hl 1 rfl) ?_
  refine gx_pi hP hS (gx_runS (na := 1) (As := [.int sv]) (rest := []) C hl.1 hK (gx_subP (wc := ([] : va_W)) hP [] rfl) ((hD.sub (ws' := ([] : va_W)) [] (by decide) rfl).weaken (fun _ _ _ _ => trivial)) (k_isShelf l D k sv _) gS_RX6_53 (by decide +kernel) rfl rfl ⟨Nat.le_of_ble_eq_true rfl, Nat.le_of_ble_eq_true rfl⟩ rfl rfl (Nat.le_of_ble_eq_true rfl) dX6_set_1 ⟨Nat.le_of_ble_eq_true rfl, Nat.le_of_ble_eq_true rfl⟩) (fun r_2 H locs pc_1 hP hS => ?_)
  have oc_1 : r_2 = 1 ∧ gx_b sv 0 7 = true ∨ r_2 = 0 ∧ gx_b sv 0 7 = false := pc_1
  clear pc_1
  rcases oc_1 with ⟨rfl, c_1⟩ | ⟨rfl, c_1⟩
  · refine lv_if_ne (tgt := 14) hx hb dX6_set_4 (by decide) (fun c_3 => ?_) (fun c_3 => absurd c_3 (by decide))
    refine lv_aload_n hx hb dX6_set_14 rfl (lv_at hl 0 rfl) ?_
    refine lv_iload_n hx hb dX6_set_15 rfl (lv_at hl 1 rfl) ?_
    refine gx_pi hP hS (gx_runV (na := 1) (As := [.int sv]) (rest := []) (ci := 4) C hl.1 hK (gx_subP (wc := ([((ad 0), .inr (4, [.ref (ad 1), .ref (ad 2), .ref (ad 3), .ref (ad 4), .ref (ad 5), .ref (ad 6), .ref (ad 7), .ref (ad 8), .ref (ad 9), .int 0])), ((ad 5), .inl (k 2, 8, .inr (.inr (.inr (.inr fs))))), (a, .inr (1, [.ref el, .int 0, .int 0, .int (-1)]))] : va_W)) hP [0, 2, 3] rfl) ((hD.sub (ws' := ([((ad 0), .inr (4, [.ref (ad 1), .ref (ad 2), .ref (ad 3), .ref (ad 4), .ref (ad 5), .ref (ad 6), .ref (ad 7), .ref (ad 8), .ref (ad 9), .int 0])), ((ad 5), .inl (k 2, 8, .inr (.inr (.inr (.inr fs))))), (a, .inr (1, [.ref el, .int 0, .int 0, .int (-1)]))] : va_W)) [0, 2, 3] (by decide) rfl).weaken (fun _ _ _ _ => trivial)) (k_rowTrouble l D k ad fs a el sv c_1 (hf c_1) _) gV_RX6_69 (by decide +kernel) rfl rfl ⟨Nat.le_of_ble_eq_true rfl, Nat.le_of_ble_eq_true rfl⟩ rfl rfl rfl rfl (Nat.le_of_ble_eq_true rfl) dX6_set_16 ⟨Nat.le_of_ble_eq_true rfl, Nat.le_of_ble_eq_true rfl⟩) (fun r_5 H locs c_4 hP hS => ?_)
    have c_4 : r_5 = -4 := c_4
    subst c_4
    refine lv_istore (lv' := [(5, .int (-4)), (0, .ref (ad 0)), (1, .int sv), (2, .int iv), (3, .long lv)]) hx hb dX6_set_19 hl (by decide) rfl (fun ls hl => ?_)
    refine lv_iload hx hb dX6_set_21 (lv_at hl 0 rfl) ?_
    refine lv_if_eq (tgt := 33) hx hb dX6_set_23 (by decide) (fun c_6 => absurd c_6 (by decide)) (fun c_6 => ?_)
    refine lv_aload_n hx hb dX6_set_26 rfl (lv_at hl 1 rfl) ?_
    refine lv_iload hx hb dX6_set_27 (lv_at hl 0 rfl) ?_
    refine gx_ei (wc := ([((ad 0), .inr (4, [.ref (ad 1), .ref (ad 2), .ref (ad 3), .ref (ad 4), .ref (ad 5), .ref (ad 6), .ref (ad 7), .ref (ad 8), .ref (ad 9), .int 0])), ((ad 9), .inl (k 0, 5, .inl (fun _ => 0)))] : va_W)) (wr := [((ad 5), .inl (k 2, 8, .inr (.inr (.inr (.inr fs))))), (a, .inr (1, [.ref el, .int 0, .int 0, .int (-1)]))]) (isC := [0, 1]) (isR := [2, 3]) hP hD hS hA rfl rfl (by decide) (by decide) (gx_runV (na := 1) (As := [.int (-4)]) (rest := []) (ci := 4) C hl.1 hK (gx_subP (wc := ([((ad 0), .inr (4, [.ref (ad 1), .ref (ad 2), .ref (ad 3), .ref (ad 4), .ref (ad 5), .ref (ad 6), .ref (ad 7), .ref (ad 8), .ref (ad 9), .int 0])), ((ad 9), .inl (k 0, 5, .inl (fun _ => 0)))] : va_W)) hP [0, 1] rfl) ((hD.sub (ws' := ([((ad 0), .inr (4, [.ref (ad 1), .ref (ad 2), .ref (ad 3), .ref (ad 4), .ref (ad 5), .ref (ad 6), .ref (ad 7), .ref (ad 8), .ref (ad 9), .int 0])), ((ad 9), .inl (k 0, 5, .inl (fun _ => 0)))] : va_W)) [0, 1] (by decide) rfl).weaken (fun _ _ _ _ => trivial)) (k_refuse4 l D k ad _) gV_RX6_61 (by decide +kernel) rfl rfl ⟨Nat.le_of_ble_eq_true rfl, Nat.le_of_ble_eq_true rfl⟩ rfl rfl rfl rfl (Nat.le_of_ble_eq_true rfl) dX6_set_29 ⟨Nat.le_of_ble_eq_true rfl, Nat.le_of_ble_eq_true rfl⟩) (fun r_9 u_7 H locs h_8 hP hD hS => ?_)
    have h_8 : r_9 = -4 := h_8
    have hP : va_P D gx_cl [((ad 5), .inl (k 2, 8, .inr (.inr (.inr (.inr fs))))), (a, .inr (1, [.ref el, .int 0, .int 0, .int (-1)]))] H := hP
    have hD : va_D A [((ad 5), .inl (k 2, 8, .inr (.inr (.inr (.inr fs))))), (a, .inr (1, [.ref el, .int 0, .int 0, .int (-1)]))] := hD
    have eh_8 := h_8
    subst eh_8
    exact gx_retI C (u := ()) gx_nil gx_noneD hS (by simp [gs_set, c_1]) dX6_set_32
  · refine lv_if_ne (tgt := 14) hx hb dX6_set_4 (by decide) (fun c_11 => absurd (by decide) c_11) (fun c_11 => ?_)
    refine lv_aload_n hx hb dX6_set_7 rfl (lv_at hl 0 rfl) ?_
    refine lv_bipush (v := (-2)) hx hb dX6_set_8 (by decide) ?_
    refine gx_ei (wc := ([((ad 0), .inr (4, [.ref (ad 1), .ref (ad 2), .ref (ad 3), .ref (ad 4), .ref (ad 5), .ref (ad 6), .ref (ad 7), .ref (ad 8), .ref (ad 9), .int 0])), ((ad 9), .inl (k 0, 5, .inl (fun _ => 0)))] : va_W)) (wr := [((ad 5), .inl (k 2, 8, .inr (.inr (.inr (.inr fs))))), (a, .inr (1, [.ref el, .int 0, .int 0, .int (-1)]))]) (isC := [0, 1]) (isR := [2, 3]) hP hD hS hA rfl rfl (by decide) (by decide) (gx_runV (na := 1) (As := [.int (-2)]) (rest := []) (ci := 4) C hl.1 hK (gx_subP (wc := ([((ad 0), .inr (4, [.ref (ad 1), .ref (ad 2), .ref (ad 3), .ref (ad 4), .ref (ad 5), .ref (ad 6), .ref (ad 7), .ref (ad 8), .ref (ad 9), .int 0])), ((ad 9), .inl (k 0, 5, .inl (fun _ => 0)))] : va_W)) hP [0, 1] rfl) ((hD.sub (ws' := ([((ad 0), .inr (4, [.ref (ad 1), .ref (ad 2), .ref (ad 3), .ref (ad 4), .ref (ad 5), .ref (ad 6), .ref (ad 7), .ref (ad 8), .ref (ad 9), .int 0])), ((ad 9), .inl (k 0, 5, .inl (fun _ => 0)))] : va_W)) [0, 1] (by decide) rfl).weaken (fun _ _ _ _ => trivial)) (k_refuse2 l D k ad _) gV_RX6_61 (by decide +kernel) rfl rfl ⟨Nat.le_of_ble_eq_true rfl, Nat.le_of_ble_eq_true rfl⟩ rfl rfl rfl rfl (Nat.le_of_ble_eq_true rfl) dX6_set_10 ⟨Nat.le_of_ble_eq_true rfl, Nat.le_of_ble_eq_true rfl⟩) (fun r_14 u_12 H locs h_13 hP hD hS => ?_)
    have h_13 : r_14 = -2 := h_13
    have hP : va_P D gx_cl [((ad 5), .inl (k 2, 8, .inr (.inr (.inr (.inr fs))))), (a, .inr (1, [.ref el, .int 0, .int 0, .int (-1)]))] H := hP
    have hD : va_D A [((ad 5), .inl (k 2, 8, .inr (.inr (.inr (.inr fs))))), (a, .inr (1, [.ref el, .int 0, .int 0, .int (-1)]))] := hD
    have eh_13 := h_13
    subst eh_13
    exact gx_retI C (u := ()) gx_nil gx_noneD hS (by simp [gs_set, c_1]) dX6_set_13
set_option maxHeartbeats 4000000 in
set_option maxRecDepth 100000 in
theorem x_copy1 (l : Launch) (D : va_G) (k : Nat → ClassId) (ad : Nat → Nat) (fs : Nat → Option Nat) (a : Nat) (el : Nat) (pv : Int32) (qv : Int32) (iv : Int32) (jv : Int32) (nv : Int32) (hf : gx_b pv 0 7 = true → fs pv.toNatClampNeg = some a) (hf2 : gx_b qv 0 7 = true → fs qv.toNatClampNeg = some a) (sz : Nat) : Met l yX6_copy (.code yX6_copy cX6_copy 7 (some .int) :: gx_T) ({ frames := 2, cells := 0, slots := 0, locals := 43 }) (gx_Pre D k [.ref (ad 0), .int pv, .int qv, .int iv, .int jv, .int nv] ([((ad 0), .inr (4, [.ref (ad 1), .ref (ad 2), .ref (ad 3), .ref (ad 4), .ref (ad 5), .ref (ad 6), .ref (ad 7), .ref (ad 8), .ref (ad 9), .int 0])), ((ad 9), .inl (k 0, 5, .inl (fun _ => 0))), ((ad 5), .inl (k 2, 8, .inr (.inr (.inr (.inr fs))))), (a, .inr (1, [.ref el, .int 0, .int 0, .int (-1)]))]) sz) (gx_Qi D (fun (r : Int32) (u : Unit) => r = (gs_copy pv qv)) (fun (u : Unit) => ([] : va_W)) (va_A ([((ad 0), .inr (4, [.ref (ad 1), .ref (ad 2), .ref (ad 3), .ref (ad 4), .ref (ad 5), .ref (ad 6), .ref (ad 7), .ref (ad 8), .ref (ad 9), .int 0])), ((ad 9), .inl (k 0, 5, .inl (fun _ => 0))), ((ad 5), .inl (k 2, 8, .inr (.inr (.inr (.inr fs))))), (a, .inr (1, [.ref el, .int 0, .int 0, .int (-1)]))]) sz)) 0 0 (va_A ([((ad 0), .inr (4, [.ref (ad 1), .ref (ad 2), .ref (ad 3), .ref (ad 4), .ref (ad 5), .ref (ad 6), .ref (ad 7), .ref (ad 8), .ref (ad 9), .int 0])), ((ad 9), .inl (k 0, 5, .inl (fun _ => 0))), ((ad 5), .inl (k 2, 8, .inr (.inr (.inr (.inr fs))))), (a, .inr (1, [.ref el, .int 0, .int 0, .int (-1)]))]) sz) := by
  refine gx_metE (Qc := fun A => gx_Qi D (fun (r : Int32) (u : Unit) => r = (gs_copy pv qv)) (fun (u : Unit) => ([] : va_W)) A) (y := yX6_copy) (cc := cX6_copy) (n := 7) (ret := (some .int)) (av := [.ref (ad 0), .int pv, .int qv, .int iv, .int jv, .int nv]) (by decide) (Nat.le_of_ble_eq_true rfl) ?_
  intro p e s m below meth c A ls C hA hP hD hK hS hl
  obtain ⟨hx, hb, hr, hml, hown, hT, hlk, hin⟩ := id C
  have hown : s.vm.findClass RX6 = some m.cls := hown
  have hl : lv_has ls 7 [(0, .ref (ad 0)), (1, .int pv), (2, .int qv), (3, .int iv), (4, .int jv), (5, .int nv)] := hl
  refine lv_iload_n hx hb dX6_copy_0 rfl (lv_at hl 1 rfl) ?_
  refine gx_pi hP hS (gx_runS (na := 1) (As := [.int pv]) (rest := []) C hl.1 hK (gx_subP (wc := ([] : va_W)) hP [] rfl) ((hD.sub (ws' := ([] : va_W)) [] (by decide) rfl).weaken (fun _ _ _ _ => trivial)) (k_isShelf l D k pv _) gS_RX6_53 (by decide +kernel) rfl rfl ⟨Nat.le_of_ble_eq_true rfl, Nat.le_of_ble_eq_true rfl⟩ rfl rfl (Nat.le_of_ble_eq_true rfl) dX6_copy_1 ⟨Nat.le_of_ble_eq_true rfl, Nat.le_of_ble_eq_true rfl⟩) (fun r_2 H locs pc_1 hP hS => ?_)
  have oc_1 : r_2 = 1 ∧ gx_b pv 0 7 = true ∨ r_2 = 0 ∧ gx_b pv 0 7 = false := pc_1
  clear pc_1
  rcases oc_1 with ⟨rfl, c_1⟩ | ⟨rfl, c_1⟩
  · refine lv_if_eq (tgt := 14) hx hb dX6_copy_4 (by decide) (fun c_3 => absurd c_3 (by decide)) (fun c_3 => ?_)
    refine lv_iload_n hx hb dX6_copy_7 rfl (lv_at hl 2 rfl) ?_
    refine gx_pi hP hS (gx_runS (na := 1) (As := [.int qv]) (rest := []) C hl.1 hK (gx_subP (wc := ([] : va_W)) hP [] rfl) ((hD.sub (ws' := ([] : va_W)) [] (by decide) rfl).weaken (fun _ _ _ _ => trivial)) (k_isShelf l D k qv _) gS_RX6_53 (by decide +kernel) rfl rfl ⟨Nat.le_of_ble_eq_true rfl, Nat.le_of_ble_eq_true rfl⟩ rfl rfl (Nat.le_of_ble_eq_true rfl) dX6_copy_8 ⟨Nat.le_of_ble_eq_true rfl, Nat.le_of_ble_eq_true rfl⟩) (fun r_5 H locs pc_4 hP hS => ?_)
    have oc_4 : r_5 = 1 ∧ gx_b qv 0 7 = true ∨ r_5 = 0 ∧ gx_b qv 0 7 = false := pc_4
    clear pc_4
    rcases oc_4 with ⟨rfl, c_4⟩ | ⟨rfl, c_4⟩
    · refine lv_if_ne (tgt := 21) hx hb dX6_copy_11 (by decide) (fun c_6 => ?_) (fun c_6 => absurd c_6 (by decide))
      refine lv_aload_n hx hb dX6_copy_21 rfl (lv_at hl 0 rfl) ?_
      refine va_get (D := D) (ci := 4) (v := .ref (ad 5)) (C := RX6) (T := TX6) (N := 10) hx hb hT iw_TX6 hown hK.1 hP 0 rfl rfl 4 (by decide) (hT _ wd_275) (fun _ h9 => h9) rfl dX6_copy_22 ?_
      refine lv_iload_n hx hb dX6_copy_25 rfl (lv_at hl 1 rfl) ?_
      refine va_aldq hx hb hK.1 hP 2 2 rfl rfl (gx_vb c_1 (by decide) (by decide)) dX6_copy_26 ?_
      refine gx_csr (v := .ref a) (congrArg va_rf (hf c_1)) ?_
      refine lv_aload_n hx hb dX6_copy_27 rfl (lv_at hl 0 rfl) ?_
      refine va_get (D := D) (ci := 4) (v := .ref (ad 5)) (C := RX6) (T := TX6) (N := 10) hx hb hT iw_TX6 hown hK.1 hP 0 rfl rfl 4 (by decide) (hT _ wd_275) (fun _ h9 => h9) rfl dX6_copy_28 ?_
      refine lv_iload_n hx hb dX6_copy_31 rfl (lv_at hl 2 rfl) ?_
      refine va_aldq hx hb hK.1 hP 2 2 rfl rfl (gx_vb c_4 (by decide) (by decide)) dX6_copy_32 ?_
      refine gx_csr (v := .ref a) (congrArg va_rf (hf2 c_4)) ?_
      refine gx_pi hP hS (gx_runS (na := 2) (As := [.ref a, .ref a]) (rest := []) C hl.1 hK (gx_subP (wc := ([(a, .inr (1, [.ref el, .int 0, .int 0, .int (-1)]))] : va_W)) hP [3] rfl) ((hD.sub (ws' := ([(a, .inr (1, [.ref el, .int 0, .int 0, .int (-1)]))] : va_W)) [3] (by decide) rfl).weaken (fun _ _ _ _ => trivial)) (k_copyTrouble1 l D k a el _) gS_RX6_80 (by decide +kernel) rfl rfl ⟨Nat.le_of_ble_eq_true rfl, Nat.le_of_ble_eq_true rfl⟩ rfl rfl (Nat.le_of_ble_eq_true rfl) dX6_copy_33 ⟨Nat.le_of_ble_eq_true rfl, Nat.le_of_ble_eq_true rfl⟩) (fun r_8 H locs c_7 hP hS => ?_)
      have c_7 : r_8 = -4 := c_7
      subst c_7
      refine lv_istore (lv' := [(6, .int (-4)), (0, .ref (ad 0)), (1, .int pv), (2, .int qv), (3, .int iv), (4, .int jv), (5, .int nv)]) hx hb dX6_copy_36 hl (by decide) rfl (fun ls hl => ?_)
      refine lv_iload hx hb dX6_copy_38 (lv_at hl 0 rfl) ?_
      refine lv_if_eq (tgt := 50) hx hb dX6_copy_40 (by decide) (fun c_9 => absurd c_9 (by decide)) (fun c_9 => ?_)
      refine lv_aload_n hx hb dX6_copy_43 rfl (lv_at hl 1 rfl) ?_
      refine lv_iload hx hb dX6_copy_44 (lv_at hl 0 rfl) ?_
      refine gx_ei (wc := ([((ad 0), .inr (4, [.ref (ad 1), .ref (ad 2), .ref (ad 3), .ref (ad 4), .ref (ad 5), .ref (ad 6), .ref (ad 7), .ref (ad 8), .ref (ad 9), .int 0])), ((ad 9), .inl (k 0, 5, .inl (fun _ => 0)))] : va_W)) (wr := [((ad 5), .inl (k 2, 8, .inr (.inr (.inr (.inr fs))))), (a, .inr (1, [.ref el, .int 0, .int 0, .int (-1)]))]) (isC := [0, 1]) (isR := [2, 3]) hP hD hS hA rfl rfl (by decide) (by decide) (gx_runV (na := 1) (As := [.int (-4)]) (rest := []) (ci := 4) C hl.1 hK (gx_subP (wc := ([((ad 0), .inr (4, [.ref (ad 1), .ref (ad 2), .ref (ad 3), .ref (ad 4), .ref (ad 5), .ref (ad 6), .ref (ad 7), .ref (ad 8), .ref (ad 9), .int 0])), ((ad 9), .inl (k 0, 5, .inl (fun _ => 0)))] : va_W)) hP [0, 1] rfl) ((hD.sub (ws' := ([((ad 0), .inr (4, [.ref (ad 1), .ref (ad 2), .ref (ad 3), .ref (ad 4), .ref (ad 5), .ref (ad 6), .ref (ad 7), .ref (ad 8), .ref (ad 9), .int 0])), ((ad 9), .inl (k 0, 5, .inl (fun _ => 0)))] : va_W)) [0, 1] (by decide) rfl).weaken (fun _ _ _ _ => trivial)) (k_refuse4 l D k ad _) gV_RX6_61 (by decide +kernel) rfl rfl ⟨Nat.le_of_ble_eq_true rfl, Nat.le_of_ble_eq_true rfl⟩ rfl rfl rfl rfl (Nat.le_of_ble_eq_true rfl) dX6_copy_46 ⟨Nat.le_of_ble_eq_true rfl, Nat.le_of_ble_eq_true rfl⟩) (fun r_12 u_10 H locs h_11 hP hD hS => ?_)
      have h_11 : r_12 = -4 := h_11
      have hP : va_P D gx_cl [((ad 5), .inl (k 2, 8, .inr (.inr (.inr (.inr fs))))), (a, .inr (1, [.ref el, .int 0, .int 0, .int (-1)]))] H := hP
      have hD : va_D A [((ad 5), .inl (k 2, 8, .inr (.inr (.inr (.inr fs))))), (a, .inr (1, [.ref el, .int 0, .int 0, .int (-1)]))] := hD
      have eh_11 := h_11
      subst eh_11
      exact gx_retI C (u := ()) gx_nil gx_noneD hS (by simp [gs_copy, c_1, c_4]) dX6_copy_49
    · refine lv_if_ne (tgt := 21) hx hb dX6_copy_11 (by decide) (fun c_14 => absurd (by decide) c_14) (fun c_14 => ?_)
      refine lv_aload_n hx hb dX6_copy_14 rfl (lv_at hl 0 rfl) ?_
      refine lv_bipush (v := (-2)) hx hb dX6_copy_15 (by decide) ?_
      refine gx_ei (wc := ([((ad 0), .inr (4, [.ref (ad 1), .ref (ad 2), .ref (ad 3), .ref (ad 4), .ref (ad 5), .ref (ad 6), .ref (ad 7), .ref (ad 8), .ref (ad 9), .int 0])), ((ad 9), .inl (k 0, 5, .inl (fun _ => 0)))] : va_W)) (wr := [((ad 5), .inl (k 2, 8, .inr (.inr (.inr (.inr fs))))), (a, .inr (1, [.ref el, .int 0, .int 0, .int (-1)]))]) (isC := [0, 1]) (isR := [2, 3]) hP hD hS hA rfl rfl (by decide) (by decide) (gx_runV (na := 1) (As := [.int (-2)]) (rest := []) (ci := 4) C hl.1 hK (gx_subP (wc := ([((ad 0), .inr (4, [.ref (ad 1), .ref (ad 2), .ref (ad 3), .ref (ad 4), .ref (ad 5), .ref (ad 6), .ref (ad 7), .ref (ad 8), .ref (ad 9), .int 0])), ((ad 9), .inl (k 0, 5, .inl (fun _ => 0)))] : va_W)) hP [0, 1] rfl) ((hD.sub (ws' := ([((ad 0), .inr (4, [.ref (ad 1), .ref (ad 2), .ref (ad 3), .ref (ad 4), .ref (ad 5), .ref (ad 6), .ref (ad 7), .ref (ad 8), .ref (ad 9), .int 0])), ((ad 9), .inl (k 0, 5, .inl (fun _ => 0)))] : va_W)) [0, 1] (by decide) rfl).weaken (fun _ _ _ _ => trivial)) (k_refuse2 l D k ad _) gV_RX6_61 (by decide +kernel) rfl rfl ⟨Nat.le_of_ble_eq_true rfl, Nat.le_of_ble_eq_true rfl⟩ rfl rfl rfl rfl (Nat.le_of_ble_eq_true rfl) dX6_copy_17 ⟨Nat.le_of_ble_eq_true rfl, Nat.le_of_ble_eq_true rfl⟩) (fun r_17 u_15 H locs h_16 hP hD hS => ?_)
      have h_16 : r_17 = -2 := h_16
      have hP : va_P D gx_cl [((ad 5), .inl (k 2, 8, .inr (.inr (.inr (.inr fs))))), (a, .inr (1, [.ref el, .int 0, .int 0, .int (-1)]))] H := hP
      have hD : va_D A [((ad 5), .inl (k 2, 8, .inr (.inr (.inr (.inr fs))))), (a, .inr (1, [.ref el, .int 0, .int 0, .int (-1)]))] := hD
      have eh_16 := h_16
      subst eh_16
      exact gx_retI C (u := ()) gx_nil gx_noneD hS (by simp [gs_copy, c_1, c_4]) dX6_copy_20
  · refine lv_if_eq (tgt := 14) hx hb dX6_copy_4 (by decide) (fun c_19 => ?_) (fun c_19 => absurd (by decide) c_19)
    refine lv_aload_n hx hb dX6_copy_14 rfl (lv_at hl 0 rfl) ?_
    refine lv_bipush (v := (-2)) hx hb dX6_copy_15 (by decide) ?_
    refine gx_ei (wc := ([((ad 0), .inr (4, [.ref (ad 1), .ref (ad 2), .ref (ad 3), .ref (ad 4), .ref (ad 5), .ref (ad 6), .ref (ad 7), .ref (ad 8), .ref (ad 9), .int 0])), ((ad 9), .inl (k 0, 5, .inl (fun _ => 0)))] : va_W)) (wr := [((ad 5), .inl (k 2, 8, .inr (.inr (.inr (.inr fs))))), (a, .inr (1, [.ref el, .int 0, .int 0, .int (-1)]))]) (isC := [0, 1]) (isR := [2, 3]) hP hD hS hA rfl rfl (by decide) (by decide) (gx_runV (na := 1) (As := [.int (-2)]) (rest := []) (ci := 4) C hl.1 hK (gx_subP (wc := ([((ad 0), .inr (4, [.ref (ad 1), .ref (ad 2), .ref (ad 3), .ref (ad 4), .ref (ad 5), .ref (ad 6), .ref (ad 7), .ref (ad 8), .ref (ad 9), .int 0])), ((ad 9), .inl (k 0, 5, .inl (fun _ => 0)))] : va_W)) hP [0, 1] rfl) ((hD.sub (ws' := ([((ad 0), .inr (4, [.ref (ad 1), .ref (ad 2), .ref (ad 3), .ref (ad 4), .ref (ad 5), .ref (ad 6), .ref (ad 7), .ref (ad 8), .ref (ad 9), .int 0])), ((ad 9), .inl (k 0, 5, .inl (fun _ => 0)))] : va_W)) [0, 1] (by decide) rfl).weaken (fun _ _ _ _ => trivial)) (k_refuse2 l D k ad _) gV_RX6_61 (by decide +kernel) rfl rfl ⟨Nat.le_of_ble_eq_true rfl, Nat.le_of_ble_eq_true rfl⟩ rfl rfl rfl rfl (Nat.le_of_ble_eq_true rfl) dX6_copy_17 ⟨Nat.le_of_ble_eq_true rfl, Nat.le_of_ble_eq_true rfl⟩) (fun r_22 u_20 H locs h_21 hP hD hS => ?_)
    have h_21 : r_22 = -2 := h_21
    have hP : va_P D gx_cl [((ad 5), .inl (k 2, 8, .inr (.inr (.inr (.inr fs))))), (a, .inr (1, [.ref el, .int 0, .int 0, .int (-1)]))] H := hP
    have hD : va_D A [((ad 5), .inl (k 2, 8, .inr (.inr (.inr (.inr fs))))), (a, .inr (1, [.ref el, .int 0, .int 0, .int (-1)]))] := hD
    have eh_21 := h_21
    subst eh_21
    exact gx_retI C (u := ()) gx_nil gx_noneD hS (by simp [gs_copy, c_1]) dX6_copy_20
set_option maxHeartbeats 4000000 in
set_option maxRecDepth 100000 in
theorem x_copy2 (l : Launch) (D : va_G) (k : Nat → ClassId) (ad : Nat → Nat) (fs : Nat → Option Nat) (a : Nat) (el : Nat) (a2 : Nat) (el2 : Nat) (pv : Int32) (qv : Int32) (iv : Int32) (jv : Int32) (nv : Int32) (hf : gx_b pv 0 7 = true → fs pv.toNatClampNeg = some a) (hf2 : gx_b qv 0 7 = true → fs qv.toNatClampNeg = some a2) (sz : Nat) : Met l yX6_copy (.code yX6_copy cX6_copy 7 (some .int) :: gx_T) ({ frames := 2, cells := 0, slots := 0, locals := 43 }) (gx_Pre D k [.ref (ad 0), .int pv, .int qv, .int iv, .int jv, .int nv] ([((ad 0), .inr (4, [.ref (ad 1), .ref (ad 2), .ref (ad 3), .ref (ad 4), .ref (ad 5), .ref (ad 6), .ref (ad 7), .ref (ad 8), .ref (ad 9), .int 0])), ((ad 9), .inl (k 0, 5, .inl (fun _ => 0))), ((ad 5), .inl (k 2, 8, .inr (.inr (.inr (.inr fs))))), (a, .inr (1, [.ref el, .int 0, .int 0, .int (-1)])), (a2, .inr (1, [.ref el2, .int 0, .int 0, .int (-1)]))]) sz) (gx_Qi D (fun (r : Int32) (u : Unit) => r = (gs_copy pv qv)) (fun (u : Unit) => ([] : va_W)) (va_A ([((ad 0), .inr (4, [.ref (ad 1), .ref (ad 2), .ref (ad 3), .ref (ad 4), .ref (ad 5), .ref (ad 6), .ref (ad 7), .ref (ad 8), .ref (ad 9), .int 0])), ((ad 9), .inl (k 0, 5, .inl (fun _ => 0))), ((ad 5), .inl (k 2, 8, .inr (.inr (.inr (.inr fs))))), (a, .inr (1, [.ref el, .int 0, .int 0, .int (-1)])), (a2, .inr (1, [.ref el2, .int 0, .int 0, .int (-1)]))]) sz)) 0 0 (va_A ([((ad 0), .inr (4, [.ref (ad 1), .ref (ad 2), .ref (ad 3), .ref (ad 4), .ref (ad 5), .ref (ad 6), .ref (ad 7), .ref (ad 8), .ref (ad 9), .int 0])), ((ad 9), .inl (k 0, 5, .inl (fun _ => 0))), ((ad 5), .inl (k 2, 8, .inr (.inr (.inr (.inr fs))))), (a, .inr (1, [.ref el, .int 0, .int 0, .int (-1)])), (a2, .inr (1, [.ref el2, .int 0, .int 0, .int (-1)]))]) sz) := by
  refine gx_metE (Qc := fun A => gx_Qi D (fun (r : Int32) (u : Unit) => r = (gs_copy pv qv)) (fun (u : Unit) => ([] : va_W)) A) (y := yX6_copy) (cc := cX6_copy) (n := 7) (ret := (some .int)) (av := [.ref (ad 0), .int pv, .int qv, .int iv, .int jv, .int nv]) (by decide) (Nat.le_of_ble_eq_true rfl) ?_
  intro p e s m below meth c A ls C hA hP hD hK hS hl
  obtain ⟨hx, hb, hr, hml, hown, hT, hlk, hin⟩ := id C
  have hown : s.vm.findClass RX6 = some m.cls := hown
  have hl : lv_has ls 7 [(0, .ref (ad 0)), (1, .int pv), (2, .int qv), (3, .int iv), (4, .int jv), (5, .int nv)] := hl
  refine lv_iload_n hx hb dX6_copy_0 rfl (lv_at hl 1 rfl) ?_
  refine gx_pi hP hS (gx_runS (na := 1) (As := [.int pv]) (rest := []) C hl.1 hK (gx_subP (wc := ([] : va_W)) hP [] rfl) ((hD.sub (ws' := ([] : va_W)) [] (by decide) rfl).weaken (fun _ _ _ _ => trivial)) (k_isShelf l D k pv _) gS_RX6_53 (by decide +kernel) rfl rfl ⟨Nat.le_of_ble_eq_true rfl, Nat.le_of_ble_eq_true rfl⟩ rfl rfl (Nat.le_of_ble_eq_true rfl) dX6_copy_1 ⟨Nat.le_of_ble_eq_true rfl, Nat.le_of_ble_eq_true rfl⟩) (fun r_2 H locs pc_1 hP hS => ?_)
  have oc_1 : r_2 = 1 ∧ gx_b pv 0 7 = true ∨ r_2 = 0 ∧ gx_b pv 0 7 = false := pc_1
  clear pc_1
  rcases oc_1 with ⟨rfl, c_1⟩ | ⟨rfl, c_1⟩
  · refine lv_if_eq (tgt := 14) hx hb dX6_copy_4 (by decide) (fun c_3 => absurd c_3 (by decide)) (fun c_3 => ?_)
    refine lv_iload_n hx hb dX6_copy_7 rfl (lv_at hl 2 rfl) ?_
    refine gx_pi hP hS (gx_runS (na := 1) (As := [.int qv]) (rest := []) C hl.1 hK (gx_subP (wc := ([] : va_W)) hP [] rfl) ((hD.sub (ws' := ([] : va_W)) [] (by decide) rfl).weaken (fun _ _ _ _ => trivial)) (k_isShelf l D k qv _) gS_RX6_53 (by decide +kernel) rfl rfl ⟨Nat.le_of_ble_eq_true rfl, Nat.le_of_ble_eq_true rfl⟩ rfl rfl (Nat.le_of_ble_eq_true rfl) dX6_copy_8 ⟨Nat.le_of_ble_eq_true rfl, Nat.le_of_ble_eq_true rfl⟩) (fun r_5 H locs pc_4 hP hS => ?_)
    have oc_4 : r_5 = 1 ∧ gx_b qv 0 7 = true ∨ r_5 = 0 ∧ gx_b qv 0 7 = false := pc_4
    clear pc_4
    rcases oc_4 with ⟨rfl, c_4⟩ | ⟨rfl, c_4⟩
    · refine lv_if_ne (tgt := 21) hx hb dX6_copy_11 (by decide) (fun c_6 => ?_) (fun c_6 => absurd c_6 (by decide))
      refine lv_aload_n hx hb dX6_copy_21 rfl (lv_at hl 0 rfl) ?_
      refine va_get (D := D) (ci := 4) (v := .ref (ad 5)) (C := RX6) (T := TX6) (N := 10) hx hb hT iw_TX6 hown hK.1 hP 0 rfl rfl 4 (by decide) (hT _ wd_275) (fun _ h9 => h9) rfl dX6_copy_22 ?_
      refine lv_iload_n hx hb dX6_copy_25 rfl (lv_at hl 1 rfl) ?_
      refine va_aldq hx hb hK.1 hP 2 2 rfl rfl (gx_vb c_1 (by decide) (by decide)) dX6_copy_26 ?_
      refine gx_csr (v := .ref a) (congrArg va_rf (hf c_1)) ?_
      refine lv_aload_n hx hb dX6_copy_27 rfl (lv_at hl 0 rfl) ?_
      refine va_get (D := D) (ci := 4) (v := .ref (ad 5)) (C := RX6) (T := TX6) (N := 10) hx hb hT iw_TX6 hown hK.1 hP 0 rfl rfl 4 (by decide) (hT _ wd_275) (fun _ h9 => h9) rfl dX6_copy_28 ?_
      refine lv_iload_n hx hb dX6_copy_31 rfl (lv_at hl 2 rfl) ?_
      refine va_aldq hx hb hK.1 hP 2 2 rfl rfl (gx_vb c_4 (by decide) (by decide)) dX6_copy_32 ?_
      refine gx_csr (v := .ref a2) (congrArg va_rf (hf2 c_4)) ?_
      refine gx_pi hP hS (gx_runS (na := 2) (As := [.ref a, .ref a2]) (rest := []) C hl.1 hK (gx_subP (wc := ([(a, .inr (1, [.ref el, .int 0, .int 0, .int (-1)])), (a2, .inr (1, [.ref el2, .int 0, .int 0, .int (-1)]))] : va_W)) hP [3, 4] rfl) ((hD.sub (ws' := ([(a, .inr (1, [.ref el, .int 0, .int 0, .int (-1)])), (a2, .inr (1, [.ref el2, .int 0, .int 0, .int (-1)]))] : va_W)) [3, 4] (by decide) rfl).weaken (fun _ _ _ _ => trivial)) (k_copyTrouble2 l D k a el a2 el2 _) gS_RX6_80 (by decide +kernel) rfl rfl ⟨Nat.le_of_ble_eq_true rfl, Nat.le_of_ble_eq_true rfl⟩ rfl rfl (Nat.le_of_ble_eq_true rfl) dX6_copy_33 ⟨Nat.le_of_ble_eq_true rfl, Nat.le_of_ble_eq_true rfl⟩) (fun r_8 H locs c_7 hP hS => ?_)
      have c_7 : r_8 = -4 := c_7
      subst c_7
      refine lv_istore (lv' := [(6, .int (-4)), (0, .ref (ad 0)), (1, .int pv), (2, .int qv), (3, .int iv), (4, .int jv), (5, .int nv)]) hx hb dX6_copy_36 hl (by decide) rfl (fun ls hl => ?_)
      refine lv_iload hx hb dX6_copy_38 (lv_at hl 0 rfl) ?_
      refine lv_if_eq (tgt := 50) hx hb dX6_copy_40 (by decide) (fun c_9 => absurd c_9 (by decide)) (fun c_9 => ?_)
      refine lv_aload_n hx hb dX6_copy_43 rfl (lv_at hl 1 rfl) ?_
      refine lv_iload hx hb dX6_copy_44 (lv_at hl 0 rfl) ?_
      refine gx_ei (wc := ([((ad 0), .inr (4, [.ref (ad 1), .ref (ad 2), .ref (ad 3), .ref (ad 4), .ref (ad 5), .ref (ad 6), .ref (ad 7), .ref (ad 8), .ref (ad 9), .int 0])), ((ad 9), .inl (k 0, 5, .inl (fun _ => 0)))] : va_W)) (wr := [((ad 5), .inl (k 2, 8, .inr (.inr (.inr (.inr fs))))), (a, .inr (1, [.ref el, .int 0, .int 0, .int (-1)])), (a2, .inr (1, [.ref el2, .int 0, .int 0, .int (-1)]))]) (isC := [0, 1]) (isR := [2, 3, 4]) hP hD hS hA rfl rfl (by decide) (by decide) (gx_runV (na := 1) (As := [.int (-4)]) (rest := []) (ci := 4) C hl.1 hK (gx_subP (wc := ([((ad 0), .inr (4, [.ref (ad 1), .ref (ad 2), .ref (ad 3), .ref (ad 4), .ref (ad 5), .ref (ad 6), .ref (ad 7), .ref (ad 8), .ref (ad 9), .int 0])), ((ad 9), .inl (k 0, 5, .inl (fun _ => 0)))] : va_W)) hP [0, 1] rfl) ((hD.sub (ws' := ([((ad 0), .inr (4, [.ref (ad 1), .ref (ad 2), .ref (ad 3), .ref (ad 4), .ref (ad 5), .ref (ad 6), .ref (ad 7), .ref (ad 8), .ref (ad 9), .int 0])), ((ad 9), .inl (k 0, 5, .inl (fun _ => 0)))] : va_W)) [0, 1] (by decide) rfl).weaken (fun _ _ _ _ => trivial)) (k_refuse4 l D k ad _) gV_RX6_61 (by decide +kernel) rfl rfl ⟨Nat.le_of_ble_eq_true rfl, Nat.le_of_ble_eq_true rfl⟩ rfl rfl rfl rfl (Nat.le_of_ble_eq_true rfl) dX6_copy_46 ⟨Nat.le_of_ble_eq_true rfl, Nat.le_of_ble_eq_true rfl⟩) (fun r_12 u_10 H locs h_11 hP hD hS => ?_)
      have h_11 : r_12 = -4 := h_11
      have hP : va_P D gx_cl [((ad 5), .inl (k 2, 8, .inr (.inr (.inr (.inr fs))))), (a, .inr (1, [.ref el, .int 0, .int 0, .int (-1)])), (a2, .inr (1, [.ref el2, .int 0, .int 0, .int (-1)]))] H := hP
      have hD : va_D A [((ad 5), .inl (k 2, 8, .inr (.inr (.inr (.inr fs))))), (a, .inr (1, [.ref el, .int 0, .int 0, .int (-1)])), (a2, .inr (1, [.ref el2, .int 0, .int 0, .int (-1)]))] := hD
      have eh_11 := h_11
      subst eh_11
      exact gx_retI C (u := ()) gx_nil gx_noneD hS (by simp [gs_copy, c_1, c_4]) dX6_copy_49
    · refine lv_if_ne (tgt := 21) hx hb dX6_copy_11 (by decide) (fun c_14 => absurd (by decide) c_14) (fun c_14 => ?_)
      refine lv_aload_n hx hb dX6_copy_14 rfl (lv_at hl 0 rfl) ?_
      refine lv_bipush (v := (-2)) hx hb dX6_copy_15 (by decide) ?_
      refine gx_ei (wc := ([((ad 0), .inr (4, [.ref (ad 1), .ref (ad 2), .ref (ad 3), .ref (ad 4), .ref (ad 5), .ref (ad 6), .ref (ad 7), .ref (ad 8), .ref (ad 9), .int 0])), ((ad 9), .inl (k 0, 5, .inl (fun _ => 0)))] : va_W)) (wr := [((ad 5), .inl (k 2, 8, .inr (.inr (.inr (.inr fs))))), (a, .inr (1, [.ref el, .int 0, .int 0, .int (-1)])), (a2, .inr (1, [.ref el2, .int 0, .int 0, .int (-1)]))]) (isC := [0, 1]) (isR := [2, 3, 4]) hP hD hS hA rfl rfl (by decide) (by decide) (gx_runV (na := 1) (As := [.int (-2)]) (rest := []) (ci := 4) C hl.1 hK (gx_subP (wc := ([((ad 0), .inr (4, [.ref (ad 1), .ref (ad 2), .ref (ad 3), .ref (ad 4), .ref (ad 5), .ref (ad 6), .ref (ad 7), .ref (ad 8), .ref (ad 9), .int 0])), ((ad 9), .inl (k 0, 5, .inl (fun _ => 0)))] : va_W)) hP [0, 1] rfl) ((hD.sub (ws' := ([((ad 0), .inr (4, [.ref (ad 1), .ref (ad 2), .ref (ad 3), .ref (ad 4), .ref (ad 5), .ref (ad 6), .ref (ad 7), .ref (ad 8), .ref (ad 9), .int 0])), ((ad 9), .inl (k 0, 5, .inl (fun _ => 0)))] : va_W)) [0, 1] (by decide) rfl).weaken (fun _ _ _ _ => trivial)) (k_refuse2 l D k ad _) gV_RX6_61 (by decide +kernel) rfl rfl ⟨Nat.le_of_ble_eq_true rfl, Nat.le_of_ble_eq_true rfl⟩ rfl rfl rfl rfl (Nat.le_of_ble_eq_true rfl) dX6_copy_17 ⟨Nat.le_of_ble_eq_true rfl, Nat.le_of_ble_eq_true rfl⟩) (fun r_17 u_15 H locs h_16 hP hD hS => ?_)
      have h_16 : r_17 = -2 := h_16
      have hP : va_P D gx_cl [((ad 5), .inl (k 2, 8, .inr (.inr (.inr (.inr fs))))), (a, .inr (1, [.ref el, .int 0, .int 0, .int (-1)])), (a2, .inr (1, [.ref el2, .int 0, .int 0, .int (-1)]))] H := hP
      have hD : va_D A [((ad 5), .inl (k 2, 8, .inr (.inr (.inr (.inr fs))))), (a, .inr (1, [.ref el, .int 0, .int 0, .int (-1)])), (a2, .inr (1, [.ref el2, .int 0, .int 0, .int (-1)]))] := hD
      have eh_16 := h_16
      subst eh_16
      exact gx_retI C (u := ()) gx_nil gx_noneD hS (by simp [gs_copy, c_1, c_4]) dX6_copy_20
  · refine lv_if_eq (tgt := 14) hx hb dX6_copy_4 (by decide) (fun c_19 => ?_) (fun c_19 => absurd (by decide) c_19)
    refine lv_aload_n hx hb dX6_copy_14 rfl (lv_at hl 0 rfl) ?_
    refine lv_bipush (v := (-2)) hx hb dX6_copy_15 (by decide) ?_
    refine gx_ei (wc := ([((ad 0), .inr (4, [.ref (ad 1), .ref (ad 2), .ref (ad 3), .ref (ad 4), .ref (ad 5), .ref (ad 6), .ref (ad 7), .ref (ad 8), .ref (ad 9), .int 0])), ((ad 9), .inl (k 0, 5, .inl (fun _ => 0)))] : va_W)) (wr := [((ad 5), .inl (k 2, 8, .inr (.inr (.inr (.inr fs))))), (a, .inr (1, [.ref el, .int 0, .int 0, .int (-1)])), (a2, .inr (1, [.ref el2, .int 0, .int 0, .int (-1)]))]) (isC := [0, 1]) (isR := [2, 3, 4]) hP hD hS hA rfl rfl (by decide) (by decide) (gx_runV (na := 1) (As := [.int (-2)]) (rest := []) (ci := 4) C hl.1 hK (gx_subP (wc := ([((ad 0), .inr (4, [.ref (ad 1), .ref (ad 2), .ref (ad 3), .ref (ad 4), .ref (ad 5), .ref (ad 6), .ref (ad 7), .ref (ad 8), .ref (ad 9), .int 0])), ((ad 9), .inl (k 0, 5, .inl (fun _ => 0)))] : va_W)) hP [0, 1] rfl) ((hD.sub (ws' := ([((ad 0), .inr (4, [.ref (ad 1), .ref (ad 2), .ref (ad 3), .ref (ad 4), .ref (ad 5), .ref (ad 6), .ref (ad 7), .ref (ad 8), .ref (ad 9), .int 0])), ((ad 9), .inl (k 0, 5, .inl (fun _ => 0)))] : va_W)) [0, 1] (by decide) rfl).weaken (fun _ _ _ _ => trivial)) (k_refuse2 l D k ad _) gV_RX6_61 (by decide +kernel) rfl rfl ⟨Nat.le_of_ble_eq_true rfl, Nat.le_of_ble_eq_true rfl⟩ rfl rfl rfl rfl (Nat.le_of_ble_eq_true rfl) dX6_copy_17 ⟨Nat.le_of_ble_eq_true rfl, Nat.le_of_ble_eq_true rfl⟩) (fun r_22 u_20 H locs h_21 hP hD hS => ?_)
    have h_21 : r_22 = -2 := h_21
    have hP : va_P D gx_cl [((ad 5), .inl (k 2, 8, .inr (.inr (.inr (.inr fs))))), (a, .inr (1, [.ref el, .int 0, .int 0, .int (-1)])), (a2, .inr (1, [.ref el2, .int 0, .int 0, .int (-1)]))] H := hP
    have hD : va_D A [((ad 5), .inl (k 2, 8, .inr (.inr (.inr (.inr fs))))), (a, .inr (1, [.ref el, .int 0, .int 0, .int (-1)])), (a2, .inr (1, [.ref el2, .int 0, .int 0, .int (-1)]))] := hD
    have eh_21 := h_21
    subst eh_21
    exact gx_retI C (u := ()) gx_nil gx_noneD hS (by simp [gs_copy, c_1]) dX6_copy_20
set_option maxHeartbeats 4000000 in
set_option maxRecDepth 100000 in
theorem x_element (l : Launch) (D : va_G) (k : Nat → ClassId) (ad : Nat → Nat) (fs : Nat → Option Nat) (a : Nat) (el : Nat) (sv : Int32) (iv : Int32) (hf : gx_b sv 0 7 = true → fs sv.toNatClampNeg = some a) (sz : Nat) : Met l yX6_element (.code yX6_element cX6_element 3 (some .long) :: gx_T) ({ frames := 2, cells := 0, slots := 0, locals := 42 }) (gx_Pre D k [.ref (ad 0), .int sv, .int iv] ([((ad 0), .inr (4, [.ref (ad 1), .ref (ad 2), .ref (ad 3), .ref (ad 4), .ref (ad 5), .ref (ad 6), .ref (ad 7), .ref (ad 8), .ref (ad 9), .int 0])), ((ad 5), .inl (k 2, 8, .inr (.inr (.inr (.inr fs))))), (a, .inr (1, [.ref el, .int 0, .int 0, .int (-1)]))]) sz) (gx_Pl (fun r => r = 0)) 0 0 gx_No := by
  refine gx_metP (y := yX6_element) (cc := cX6_element) (n := 3) (ret := (some .long)) (av := [.ref (ad 0), .int sv, .int iv]) (by decide) (Nat.le_of_ble_eq_true rfl) ?_
  intro p e s m below meth c ls C hP hD hK hS hl
  obtain ⟨hx, hb, hr, hml, hown, hT, hlk, hin⟩ := id C
  have hown : s.vm.findClass RX6 = some m.cls := hown
  have hl : lv_has ls 3 [(0, .ref (ad 0)), (1, .int sv), (2, .int iv)] := hl
  refine lv_iload_n hx hb dX6_element_0 rfl (lv_at hl 1 rfl) ?_
  refine gx_pi hP hS (gx_runS (na := 1) (As := [.int sv]) (rest := []) C hl.1 hK (gx_subP (wc := ([] : va_W)) hP [] rfl) ((hD.sub (ws' := ([] : va_W)) [] (by decide) rfl).weaken (fun _ _ _ _ => trivial)) (k_isShelf l D k sv _) gS_RX6_53 (by decide +kernel) rfl rfl ⟨Nat.le_of_ble_eq_true rfl, Nat.le_of_ble_eq_true rfl⟩ rfl rfl (Nat.le_of_ble_eq_true rfl) dX6_element_1 ⟨Nat.le_of_ble_eq_true rfl, Nat.le_of_ble_eq_true rfl⟩) (fun r_2 H locs pc_1 hP hS => ?_)
  have oc_1 : r_2 = 1 ∧ gx_b sv 0 7 = true ∨ r_2 = 0 ∧ gx_b sv 0 7 = false := pc_1
  clear pc_1
  rcases oc_1 with ⟨rfl, c_1⟩ | ⟨rfl, c_1⟩
  · refine lv_if_eq (tgt := 38) hx hb dX6_element_4 (by decide) (fun c_3 => absurd c_3 (by decide)) (fun c_3 => ?_)
    refine lv_aload_n hx hb dX6_element_7 rfl (lv_at hl 0 rfl) ?_
    refine va_get (D := D) (ci := 4) (v := .ref (ad 5)) (C := RX6) (T := TX6) (N := 10) hx hb hT iw_TX6 hown hK.1 hP 0 rfl rfl 4 (by decide) (hT _ wd_275) (fun _ h9 => h9) rfl dX6_element_8 ?_
    refine lv_iload_n hx hb dX6_element_11 rfl (lv_at hl 1 rfl) ?_
    refine va_aldq hx hb hK.1 hP 1 2 rfl rfl (gx_vb c_1 (by decide) (by decide)) dX6_element_12 ?_
    refine gx_csr (v := .ref a) (congrArg va_rf (hf c_1)) ?_
    refine gx_pi hP hS (gx_runV (na := 0) (As := []) (rest := []) (ci := 1) C hl.1 hK (gx_subP (wc := ([(a, .inr (1, [.ref el, .int 0, .int 0, .int (-1)]))] : va_W)) hP [2] rfl) ((hD.sub (ws' := ([(a, .inr (1, [.ref el, .int 0, .int 0, .int (-1)]))] : va_W)) [2] (by decide) rfl).weaken (fun _ _ _ _ => trivial)) (k_isRow l D k a el 0 0 _) gV_RX6_98 (by decide +kernel) rfl rfl ⟨Nat.le_of_ble_eq_true rfl, Nat.le_of_ble_eq_true rfl⟩ rfl rfl rfl rfl (Nat.le_of_ble_eq_true rfl) dX6_element_13 ⟨Nat.le_of_ble_eq_true rfl, Nat.le_of_ble_eq_true rfl⟩) (fun r_5 H locs c_4 hP hS => ?_)
    have c_4 : r_5 = 0 := c_4
    subst c_4
    refine lv_if_eq (tgt := 38) hx hb dX6_element_16 (by decide) (fun c_6 => ?_) (fun c_6 => absurd (by decide) c_6)
    refine lv_lconst (v := 0) hx hb dX6_element_38 (by decide) ?_
    exact gx_retPL C hS (rfl) dX6_element_39
  · refine lv_if_eq (tgt := 38) hx hb dX6_element_4 (by decide) (fun c_7 => ?_) (fun c_7 => absurd (by decide) c_7)
    refine lv_lconst (v := 0) hx hb dX6_element_38 (by decide) ?_
    exact gx_retPL C hS (rfl) dX6_element_39
set_option maxHeartbeats 4000000 in
set_option maxRecDepth 100000 in
theorem x_holds (l : Launch) (D : va_G) (k : Nat → ClassId) (ad : Nat → Nat) (fs : Nat → Option Nat) (a : Nat) (el : Nat) (sv : Int32) (hf : gx_b sv 0 7 = true → fs sv.toNatClampNeg = some a) (sz : Nat) : Met l yX6_holds (.code yX6_holds cX6_holds 2 (some .int) :: gx_T) ({ frames := 2, cells := 0, slots := 0, locals := 42 }) (gx_Pre D k [.ref (ad 0), .int sv] ([((ad 0), .inr (4, [.ref (ad 1), .ref (ad 2), .ref (ad 3), .ref (ad 4), .ref (ad 5), .ref (ad 6), .ref (ad 7), .ref (ad 8), .ref (ad 9), .int 0])), ((ad 5), .inl (k 2, 8, .inr (.inr (.inr (.inr fs))))), (a, .inr (1, [.ref el, .int 0, .int 0, .int (-1)]))]) sz) (gx_Pi (fun r => r = -1)) 0 0 gx_No := by
  refine gx_metP (y := yX6_holds) (cc := cX6_holds) (n := 2) (ret := (some .int)) (av := [.ref (ad 0), .int sv]) (by decide) (Nat.le_of_ble_eq_true rfl) ?_
  intro p e s m below meth c ls C hP hD hK hS hl
  obtain ⟨hx, hb, hr, hml, hown, hT, hlk, hin⟩ := id C
  have hown : s.vm.findClass RX6 = some m.cls := hown
  have hl : lv_has ls 2 [(0, .ref (ad 0)), (1, .int sv)] := hl
  refine lv_iload_n hx hb dX6_holds_0 rfl (lv_at hl 1 rfl) ?_
  refine gx_pi hP hS (gx_runS (na := 1) (As := [.int sv]) (rest := []) C hl.1 hK (gx_subP (wc := ([] : va_W)) hP [] rfl) ((hD.sub (ws' := ([] : va_W)) [] (by decide) rfl).weaken (fun _ _ _ _ => trivial)) (k_isShelf l D k sv _) gS_RX6_53 (by decide +kernel) rfl rfl ⟨Nat.le_of_ble_eq_true rfl, Nat.le_of_ble_eq_true rfl⟩ rfl rfl (Nat.le_of_ble_eq_true rfl) dX6_holds_1 ⟨Nat.le_of_ble_eq_true rfl, Nat.le_of_ble_eq_true rfl⟩) (fun r_2 H locs pc_1 hP hS => ?_)
  have oc_1 : r_2 = 1 ∧ gx_b sv 0 7 = true ∨ r_2 = 0 ∧ gx_b sv 0 7 = false := pc_1
  clear pc_1
  rcases oc_1 with ⟨rfl, c_1⟩ | ⟨rfl, c_1⟩
  · refine lv_if_eq (tgt := 19) hx hb dX6_holds_4 (by decide) (fun c_3 => absurd c_3 (by decide)) (fun c_3 => ?_)
    refine lv_aload_n hx hb dX6_holds_7 rfl (lv_at hl 0 rfl) ?_
    refine va_get (D := D) (ci := 4) (v := .ref (ad 5)) (C := RX6) (T := TX6) (N := 10) hx hb hT iw_TX6 hown hK.1 hP 0 rfl rfl 4 (by decide) (hT _ wd_275) (fun _ h9 => h9) rfl dX6_holds_8 ?_
    refine lv_iload_n hx hb dX6_holds_11 rfl (lv_at hl 1 rfl) ?_
    refine va_aldq hx hb hK.1 hP 1 2 rfl rfl (gx_vb c_1 (by decide) (by decide)) dX6_holds_12 ?_
    refine gx_csr (v := .ref a) (congrArg va_rf (hf c_1)) ?_
    refine va_get (D := D) (ci := 1) (v := .int (-1)) (C := RX3) (T := TX3) (N := 4) hx hb hT iw_TX3 hown hK.1 hP 2 rfl rfl 3 (by decide) (hT _ wd_260) (fun _ h9 => h9) rfl dX6_holds_13 ?_
    refine lv_goto (tgt := 20) hx hb dX6_holds_16 (by decide) ?_
    exact gx_retP C hS (rfl) dX6_holds_20
  · refine lv_if_eq (tgt := 19) hx hb dX6_holds_4 (by decide) (fun c_4 => ?_) (fun c_4 => absurd (by decide) c_4)
    refine lv_iconst (v := (-1)) hx hb dX6_holds_19 (by decide) ?_
    exact gx_retP C hS (rfl) dX6_holds_20
set_option maxHeartbeats 4000000 in
set_option maxRecDepth 100000 in
theorem x_rule (l : Launch) (D : va_G) (k : Nat → ClassId) (ad : Nat → Nat) (fs : Nat → Option Nat) (a : Nat) (el : Nat) (sv : Int32) (kv : Int32) (av : Int32) (hf : gx_b sv 0 7 = true → fs sv.toNatClampNeg = some a) (sz : Nat) : Met l yX6_rule (.code yX6_rule cX6_rule 4 (some .int) :: gx_T) ({ frames := 2, cells := 0, slots := 0, locals := 43 }) (gx_Pre D k [.ref (ad 0), .int sv, .int kv, .int av] ([((ad 0), .inr (4, [.ref (ad 1), .ref (ad 2), .ref (ad 3), .ref (ad 4), .ref (ad 5), .ref (ad 6), .ref (ad 7), .ref (ad 8), .ref (ad 9), .int 0])), ((ad 9), .inl (k 0, 5, .inl (fun _ => 0))), ((ad 5), .inl (k 2, 8, .inr (.inr (.inr (.inr fs))))), (a, .inr (1, [.ref el, .int 0, .int 0, .int (-1)]))]) sz) (gx_Qi D (fun (r : Int32) (u : Unit) => r = (gs_rule sv kv av)) (fun (u : Unit) => ([] : va_W)) (va_A ([((ad 0), .inr (4, [.ref (ad 1), .ref (ad 2), .ref (ad 3), .ref (ad 4), .ref (ad 5), .ref (ad 6), .ref (ad 7), .ref (ad 8), .ref (ad 9), .int 0])), ((ad 9), .inl (k 0, 5, .inl (fun _ => 0))), ((ad 5), .inl (k 2, 8, .inr (.inr (.inr (.inr fs))))), (a, .inr (1, [.ref el, .int 0, .int 0, .int (-1)]))]) sz)) 0 0 (va_A ([((ad 0), .inr (4, [.ref (ad 1), .ref (ad 2), .ref (ad 3), .ref (ad 4), .ref (ad 5), .ref (ad 6), .ref (ad 7), .ref (ad 8), .ref (ad 9), .int 0])), ((ad 9), .inl (k 0, 5, .inl (fun _ => 0))), ((ad 5), .inl (k 2, 8, .inr (.inr (.inr (.inr fs))))), (a, .inr (1, [.ref el, .int 0, .int 0, .int (-1)]))]) sz) := by
  refine gx_metE (Qc := fun A => gx_Qi D (fun (r : Int32) (u : Unit) => r = (gs_rule sv kv av)) (fun (u : Unit) => ([] : va_W)) A) (y := yX6_rule) (cc := cX6_rule) (n := 4) (ret := (some .int)) (av := [.ref (ad 0), .int sv, .int kv, .int av]) (by decide) (Nat.le_of_ble_eq_true rfl) ?_
  intro p e s m below meth c A ls C hA hP hD hK hS hl
  obtain ⟨hx, hb, hr, hml, hown, hT, hlk, hin⟩ := id C
  have hown : s.vm.findClass RX6 = some m.cls := hown
  have hl : lv_has ls 4 [(0, .ref (ad 0)), (1, .int sv), (2, .int kv), (3, .int av)] := hl
  refine lv_iload_n hx hb dX6_rule_0 rfl (lv_at hl 1 rfl) ?_
  refine gx_pi hP hS (gx_runS (na := 1) (As := [.int sv]) (rest := []) C hl.1 hK (gx_subP (wc := ([] : va_W)) hP [] rfl) ((hD.sub (ws' := ([] : va_W)) [] (by decide) rfl).weaken (fun _ _ _ _ => trivial)) (k_isShelf l D k sv _) gS_RX6_53 (by decide +kernel) rfl rfl ⟨Nat.le_of_ble_eq_true rfl, Nat.le_of_ble_eq_true rfl⟩ rfl rfl (Nat.le_of_ble_eq_true rfl) dX6_rule_1 ⟨Nat.le_of_ble_eq_true rfl, Nat.le_of_ble_eq_true rfl⟩) (fun r_2 H locs pc_1 hP hS => ?_)
  have oc_1 : r_2 = 1 ∧ gx_b sv 0 7 = true ∨ r_2 = 0 ∧ gx_b sv 0 7 = false := pc_1
  clear pc_1
  rcases oc_1 with ⟨rfl, c_1⟩ | ⟨rfl, c_1⟩
  · refine lv_if_eq (tgt := 27) hx hb dX6_rule_4 (by decide) (fun c_3 => absurd c_3 (by decide)) (fun c_3 => ?_)
    refine lv_iload_n hx hb dX6_rule_7 rfl (lv_at hl 2 rfl) ?_
    refine lv_iconst (v := 1) hx hb dX6_rule_8 (by decide) ?_
    refine lv_bipush (v := 6) hx hb dX6_rule_9 (by decide) ?_
    refine gx_pi hP hS (gx_runS (na := 3) (As := [.int kv, .int 1, .int 6]) (rest := []) C hl.1 hK (gx_subP (wc := ([] : va_W)) hP [] rfl) ((hD.sub (ws' := ([] : va_W)) [] (by decide) rfl).weaken (fun _ _ _ _ => trivial)) (k_isBetween l D k kv 1 6 _) gS_RX6_57 (by decide +kernel) rfl rfl ⟨Nat.le_of_ble_eq_true rfl, Nat.le_of_ble_eq_true rfl⟩ rfl rfl (Nat.le_of_ble_eq_true rfl) dX6_rule_11 ⟨Nat.le_of_ble_eq_true rfl, Nat.le_of_ble_eq_true rfl⟩) (fun r_5 H locs pc_4 hP hS => ?_)
    have oc_4 : r_5 = 1 ∧ gx_b kv 1 6 = true ∨ r_5 = 0 ∧ gx_b kv 1 6 = false := pc_4
    clear pc_4
    rcases oc_4 with ⟨rfl, c_4⟩ | ⟨rfl, c_4⟩
    · refine lv_if_eq (tgt := 27) hx hb dX6_rule_14 (by decide) (fun c_6 => absurd c_6 (by decide)) (fun c_6 => ?_)
      refine lv_iload_n hx hb dX6_rule_17 rfl (lv_at hl 3 rfl) ?_
      refine lv_iconst (v := 0) hx hb dX6_rule_18 (by decide) ?_
      refine lv_bipush (v := 99) hx hb dX6_rule_19 (by decide) ?_
      refine gx_pi hP hS (gx_runS (na := 3) (As := [.int av, .int 0, .int 99]) (rest := []) C hl.1 hK (gx_subP (wc := ([] : va_W)) hP [] rfl) ((hD.sub (ws' := ([] : va_W)) [] (by decide) rfl).weaken (fun _ _ _ _ => trivial)) (k_isBetween l D k av 0 99 _) gS_RX6_57 (by decide +kernel) rfl rfl ⟨Nat.le_of_ble_eq_true rfl, Nat.le_of_ble_eq_true rfl⟩ rfl rfl (Nat.le_of_ble_eq_true rfl) dX6_rule_21 ⟨Nat.le_of_ble_eq_true rfl, Nat.le_of_ble_eq_true rfl⟩) (fun r_8 H locs pc_7 hP hS => ?_)
      have oc_7 : r_8 = 1 ∧ gx_b av 0 99 = true ∨ r_8 = 0 ∧ gx_b av 0 99 = false := pc_7
      clear pc_7
      rcases oc_7 with ⟨rfl, c_7⟩ | ⟨rfl, c_7⟩
      · refine lv_if_ne (tgt := 34) hx hb dX6_rule_24 (by decide) (fun c_9 => ?_) (fun c_9 => absurd c_9 (by decide))
        refine lv_aload_n hx hb dX6_rule_34 rfl (lv_at hl 0 rfl) ?_
        refine va_get (D := D) (ci := 4) (v := .ref (ad 5)) (C := RX6) (T := TX6) (N := 10) hx hb hT iw_TX6 hown hK.1 hP 0 rfl rfl 4 (by decide) (hT _ wd_275) (fun _ h9 => h9) rfl dX6_rule_35 ?_
        refine lv_iload_n hx hb dX6_rule_38 rfl (lv_at hl 1 rfl) ?_
        refine va_aldq hx hb hK.1 hP 2 2 rfl rfl (gx_vb c_1 (by decide) (by decide)) dX6_rule_39 ?_
        refine gx_csr (v := .ref a) (congrArg va_rf (hf c_1)) ?_
        refine lv_iload_n hx hb dX6_rule_40 rfl (lv_at hl 2 rfl) ?_
        refine lv_iload_n hx hb dX6_rule_41 rfl (lv_at hl 3 rfl) ?_
        refine gx_ev (wc := ([(a, .inr (1, [.ref el, .int 0, .int 0, .int (-1)]))] : va_W)) (wr := [((ad 0), .inr (4, [.ref (ad 1), .ref (ad 2), .ref (ad 3), .ref (ad 4), .ref (ad 5), .ref (ad 6), .ref (ad 7), .ref (ad 8), .ref (ad 9), .int 0])), ((ad 9), .inl (k 0, 5, .inl (fun _ => 0))), ((ad 5), .inl (k 2, 8, .inr (.inr (.inr (.inr fs)))))]) (isC := [3]) (isR := [0, 1, 2]) hP hD hS hA rfl rfl (by decide) (by decide) (gx_runV (na := 2) (As := [.int kv, .int av]) (rest := []) (ci := 1) C hl.1 hK (gx_subP (wc := ([(a, .inr (1, [.ref el, .int 0, .int 0, .int (-1)]))] : va_W)) hP [3] rfl) ((hD.sub (ws' := ([(a, .inr (1, [.ref el, .int 0, .int 0, .int (-1)]))] : va_W)) [3] (by decide) rfl).weaken (fun _ _ _ _ => trivial)) (k_becomeRule l D k a el kv av _) gV_RX6_107 (by decide +kernel) rfl rfl ⟨Nat.le_of_ble_eq_true rfl, Nat.le_of_ble_eq_true rfl⟩ rfl rfl rfl rfl (Nat.le_of_ble_eq_true rfl) dX6_rule_42 ⟨Nat.le_of_ble_eq_true rfl, Nat.le_of_ble_eq_true rfl⟩) (fun u_10 H locs h_11 hP hD hS => ?_)
        have hP : va_P D gx_cl [((ad 0), .inr (4, [.ref (ad 1), .ref (ad 2), .ref (ad 3), .ref (ad 4), .ref (ad 5), .ref (ad 6), .ref (ad 7), .ref (ad 8), .ref (ad 9), .int 0])), ((ad 9), .inl (k 0, 5, .inl (fun _ => 0))), ((ad 5), .inl (k 2, 8, .inr (.inr (.inr (.inr fs)))))] H := hP
        have hD : va_D A [((ad 0), .inr (4, [.ref (ad 1), .ref (ad 2), .ref (ad 3), .ref (ad 4), .ref (ad 5), .ref (ad 6), .ref (ad 7), .ref (ad 8), .ref (ad 9), .int 0])), ((ad 9), .inl (k 0, 5, .inl (fun _ => 0))), ((ad 5), .inl (k 2, 8, .inr (.inr (.inr (.inr fs)))))] := hD
        refine lv_iconst (v := 1) hx hb dX6_rule_45 (by decide) ?_
        exact gx_retI C (u := ()) gx_nil gx_noneD hS (by simp [gs_rule, c_1, c_4, c_7]) dX6_rule_46
      · refine lv_if_ne (tgt := 34) hx hb dX6_rule_24 (by decide) (fun c_14 => absurd (by decide) c_14) (fun c_14 => ?_)
        refine lv_aload_n hx hb dX6_rule_27 rfl (lv_at hl 0 rfl) ?_
        refine lv_bipush (v := (-2)) hx hb dX6_rule_28 (by decide) ?_
        refine gx_ei (wc := ([((ad 0), .inr (4, [.ref (ad 1), .ref (ad 2), .ref (ad 3), .ref (ad 4), .ref (ad 5), .ref (ad 6), .ref (ad 7), .ref (ad 8), .ref (ad 9), .int 0])), ((ad 9), .inl (k 0, 5, .inl (fun _ => 0)))] : va_W)) (wr := [((ad 5), .inl (k 2, 8, .inr (.inr (.inr (.inr fs))))), (a, .inr (1, [.ref el, .int 0, .int 0, .int (-1)]))]) (isC := [0, 1]) (isR := [2, 3]) hP hD hS hA rfl rfl (by decide) (by decide) (gx_runV (na := 1) (As := [.int (-2)]) (rest := []) (ci := 4) C hl.1 hK (gx_subP (wc := ([((ad 0), .inr (4, [.ref (ad 1), .ref (ad 2), .ref (ad 3), .ref (ad 4), .ref (ad 5), .ref (ad 6), .ref (ad 7), .ref (ad 8), .ref (ad 9), .int 0])), ((ad 9), .inl (k 0, 5, .inl (fun _ => 0)))] : va_W)) hP [0, 1] rfl) ((hD.sub (ws' := ([((ad 0), .inr (4, [.ref (ad 1), .ref (ad 2), .ref (ad 3), .ref (ad 4), .ref (ad 5), .ref (ad 6), .ref (ad 7), .ref (ad 8), .ref (ad 9), .int 0])), ((ad 9), .inl (k 0, 5, .inl (fun _ => 0)))] : va_W)) [0, 1] (by decide) rfl).weaken (fun _ _ _ _ => trivial)) (k_refuse2 l D k ad _) gV_RX6_61 (by decide +kernel) rfl rfl ⟨Nat.le_of_ble_eq_true rfl, Nat.le_of_ble_eq_true rfl⟩ rfl rfl rfl rfl (Nat.le_of_ble_eq_true rfl) dX6_rule_30 ⟨Nat.le_of_ble_eq_true rfl, Nat.le_of_ble_eq_true rfl⟩) (fun r_17 u_15 H locs h_16 hP hD hS => ?_)
        have h_16 : r_17 = -2 := h_16
        have hP : va_P D gx_cl [((ad 5), .inl (k 2, 8, .inr (.inr (.inr (.inr fs))))), (a, .inr (1, [.ref el, .int 0, .int 0, .int (-1)]))] H := hP
        have hD : va_D A [((ad 5), .inl (k 2, 8, .inr (.inr (.inr (.inr fs))))), (a, .inr (1, [.ref el, .int 0, .int 0, .int (-1)]))] := hD
        have eh_16 := h_16
        subst eh_16
        exact gx_retI C (u := ()) gx_nil gx_noneD hS (by simp [gs_rule, c_1, c_4, c_7]) dX6_rule_33
    · refine lv_if_eq (tgt := 27) hx hb dX6_rule_14 (by decide) (fun c_19 => ?_) (fun c_19 => absurd (by decide) c_19)
      refine lv_aload_n hx hb dX6_rule_27 rfl (lv_at hl 0 rfl) ?_
      refine lv_bipush (v := (-2)) hx hb dX6_rule_28 (by decide) ?_
      refine gx_ei (wc := ([((ad 0), .inr (4, [.ref (ad 1), .ref (ad 2), .ref (ad 3), .ref (ad 4), .ref (ad 5), .ref (ad 6), .ref (ad 7), .ref (ad 8), .ref (ad 9), .int 0])), ((ad 9), .inl (k 0, 5, .inl (fun _ => 0)))] : va_W)) (wr := [((ad 5), .inl (k 2, 8, .inr (.inr (.inr (.inr fs))))), (a, .inr (1, [.ref el, .int 0, .int 0, .int (-1)]))]) (isC := [0, 1]) (isR := [2, 3]) hP hD hS hA rfl rfl (by decide) (by decide) (gx_runV (na := 1) (As := [.int (-2)]) (rest := []) (ci := 4) C hl.1 hK (gx_subP (wc := ([((ad 0), .inr (4, [.ref (ad 1), .ref (ad 2), .ref (ad 3), .ref (ad 4), .ref (ad 5), .ref (ad 6), .ref (ad 7), .ref (ad 8), .ref (ad 9), .int 0])), ((ad 9), .inl (k 0, 5, .inl (fun _ => 0)))] : va_W)) hP [0, 1] rfl) ((hD.sub (ws' := ([((ad 0), .inr (4, [.ref (ad 1), .ref (ad 2), .ref (ad 3), .ref (ad 4), .ref (ad 5), .ref (ad 6), .ref (ad 7), .ref (ad 8), .ref (ad 9), .int 0])), ((ad 9), .inl (k 0, 5, .inl (fun _ => 0)))] : va_W)) [0, 1] (by decide) rfl).weaken (fun _ _ _ _ => trivial)) (k_refuse2 l D k ad _) gV_RX6_61 (by decide +kernel) rfl rfl ⟨Nat.le_of_ble_eq_true rfl, Nat.le_of_ble_eq_true rfl⟩ rfl rfl rfl rfl (Nat.le_of_ble_eq_true rfl) dX6_rule_30 ⟨Nat.le_of_ble_eq_true rfl, Nat.le_of_ble_eq_true rfl⟩) (fun r_22 u_20 H locs h_21 hP hD hS => ?_)
      have h_21 : r_22 = -2 := h_21
      have hP : va_P D gx_cl [((ad 5), .inl (k 2, 8, .inr (.inr (.inr (.inr fs))))), (a, .inr (1, [.ref el, .int 0, .int 0, .int (-1)]))] H := hP
      have hD : va_D A [((ad 5), .inl (k 2, 8, .inr (.inr (.inr (.inr fs))))), (a, .inr (1, [.ref el, .int 0, .int 0, .int (-1)]))] := hD
      have eh_21 := h_21
      subst eh_21
      exact gx_retI C (u := ()) gx_nil gx_noneD hS (by simp [gs_rule, c_1, c_4]) dX6_rule_33
  · refine lv_if_eq (tgt := 27) hx hb dX6_rule_4 (by decide) (fun c_24 => ?_) (fun c_24 => absurd (by decide) c_24)
    refine lv_aload_n hx hb dX6_rule_27 rfl (lv_at hl 0 rfl) ?_
    refine lv_bipush (v := (-2)) hx hb dX6_rule_28 (by decide) ?_
    refine gx_ei (wc := ([((ad 0), .inr (4, [.ref (ad 1), .ref (ad 2), .ref (ad 3), .ref (ad 4), .ref (ad 5), .ref (ad 6), .ref (ad 7), .ref (ad 8), .ref (ad 9), .int 0])), ((ad 9), .inl (k 0, 5, .inl (fun _ => 0)))] : va_W)) (wr := [((ad 5), .inl (k 2, 8, .inr (.inr (.inr (.inr fs))))), (a, .inr (1, [.ref el, .int 0, .int 0, .int (-1)]))]) (isC := [0, 1]) (isR := [2, 3]) hP hD hS hA rfl rfl (by decide) (by decide) (gx_runV (na := 1) (As := [.int (-2)]) (rest := []) (ci := 4) C hl.1 hK (gx_subP (wc := ([((ad 0), .inr (4, [.ref (ad 1), .ref (ad 2), .ref (ad 3), .ref (ad 4), .ref (ad 5), .ref (ad 6), .ref (ad 7), .ref (ad 8), .ref (ad 9), .int 0])), ((ad 9), .inl (k 0, 5, .inl (fun _ => 0)))] : va_W)) hP [0, 1] rfl) ((hD.sub (ws' := ([((ad 0), .inr (4, [.ref (ad 1), .ref (ad 2), .ref (ad 3), .ref (ad 4), .ref (ad 5), .ref (ad 6), .ref (ad 7), .ref (ad 8), .ref (ad 9), .int 0])), ((ad 9), .inl (k 0, 5, .inl (fun _ => 0)))] : va_W)) [0, 1] (by decide) rfl).weaken (fun _ _ _ _ => trivial)) (k_refuse2 l D k ad _) gV_RX6_61 (by decide +kernel) rfl rfl ⟨Nat.le_of_ble_eq_true rfl, Nat.le_of_ble_eq_true rfl⟩ rfl rfl rfl rfl (Nat.le_of_ble_eq_true rfl) dX6_rule_30 ⟨Nat.le_of_ble_eq_true rfl, Nat.le_of_ble_eq_true rfl⟩) (fun r_27 u_25 H locs h_26 hP hD hS => ?_)
    have h_26 : r_27 = -2 := h_26
    have hP : va_P D gx_cl [((ad 5), .inl (k 2, 8, .inr (.inr (.inr (.inr fs))))), (a, .inr (1, [.ref el, .int 0, .int 0, .int (-1)]))] H := hP
    have hD : va_D A [((ad 5), .inl (k 2, 8, .inr (.inr (.inr (.inr fs))))), (a, .inr (1, [.ref el, .int 0, .int 0, .int (-1)]))] := hD
    have eh_26 := h_26
    subst eh_26
    exact gx_retI C (u := ()) gx_nil gx_noneD hS (by simp [gs_rule, c_1]) dX6_rule_33
set_option maxHeartbeats 4000000 in
set_option maxRecDepth 100000 in
theorem x_says (l : Launch) (D : va_G) (k : Nat → ClassId) (ad : Nat → Nat) (fs : Nat → Option Nat) (a : Nat) (el : Nat) (sv : Int32) (kv : Int32) (hf : gx_b sv 0 7 = true → fs sv.toNatClampNeg = some a) (sz : Nat) : Met l yX6_says (.code yX6_says cX6_says 4 (some .int) :: gx_T) ({ frames := 2, cells := 0, slots := 0, locals := 43 }) (gx_Pre D k [.ref (ad 0), .int sv, .int kv] ([((ad 0), .inr (4, [.ref (ad 1), .ref (ad 2), .ref (ad 3), .ref (ad 4), .ref (ad 5), .ref (ad 6), .ref (ad 7), .ref (ad 8), .ref (ad 9), .int 0])), ((ad 9), .inl (k 0, 5, .inl (fun _ => 0))), ((ad 5), .inl (k 2, 8, .inr (.inr (.inr (.inr fs))))), (a, .inr (1, [.ref el, .int 0, .int 0, .int (-1)]))]) sz) (gx_Qi D (fun (r : Int32) (u : Unit) => r = (gs_says sv kv)) (fun (u : Unit) => ([] : va_W)) (va_A ([((ad 0), .inr (4, [.ref (ad 1), .ref (ad 2), .ref (ad 3), .ref (ad 4), .ref (ad 5), .ref (ad 6), .ref (ad 7), .ref (ad 8), .ref (ad 9), .int 0])), ((ad 9), .inl (k 0, 5, .inl (fun _ => 0))), ((ad 5), .inl (k 2, 8, .inr (.inr (.inr (.inr fs))))), (a, .inr (1, [.ref el, .int 0, .int 0, .int (-1)]))]) sz)) 0 0 (va_A ([((ad 0), .inr (4, [.ref (ad 1), .ref (ad 2), .ref (ad 3), .ref (ad 4), .ref (ad 5), .ref (ad 6), .ref (ad 7), .ref (ad 8), .ref (ad 9), .int 0])), ((ad 9), .inl (k 0, 5, .inl (fun _ => 0))), ((ad 5), .inl (k 2, 8, .inr (.inr (.inr (.inr fs))))), (a, .inr (1, [.ref el, .int 0, .int 0, .int (-1)]))]) sz) := by
  refine gx_metE (Qc := fun A => gx_Qi D (fun (r : Int32) (u : Unit) => r = (gs_says sv kv)) (fun (u : Unit) => ([] : va_W)) A) (y := yX6_says) (cc := cX6_says) (n := 4) (ret := (some .int)) (av := [.ref (ad 0), .int sv, .int kv]) (by decide) (Nat.le_of_ble_eq_true rfl) ?_
  intro p e s m below meth c A ls C hA hP hD hK hS hl
  obtain ⟨hx, hb, hr, hml, hown, hT, hlk, hin⟩ := id C
  have hown : s.vm.findClass RX6 = some m.cls := hown
  have hl : lv_has ls 4 [(0, .ref (ad 0)), (1, .int sv), (2, .int kv)] := hl
  refine lv_iload_n hx hb dX6_says_0 rfl (lv_at hl 1 rfl) ?_
  refine gx_pi hP hS (gx_runS (na := 1) (As := [.int sv]) (rest := []) C hl.1 hK (gx_subP (wc := ([] : va_W)) hP [] rfl) ((hD.sub (ws' := ([] : va_W)) [] (by decide) rfl).weaken (fun _ _ _ _ => trivial)) (k_isShelf l D k sv _) gS_RX6_53 (by decide +kernel) rfl rfl ⟨Nat.le_of_ble_eq_true rfl, Nat.le_of_ble_eq_true rfl⟩ rfl rfl (Nat.le_of_ble_eq_true rfl) dX6_says_1 ⟨Nat.le_of_ble_eq_true rfl, Nat.le_of_ble_eq_true rfl⟩) (fun r_2 H locs pc_1 hP hS => ?_)
  have oc_1 : r_2 = 1 ∧ gx_b sv 0 7 = true ∨ r_2 = 0 ∧ gx_b sv 0 7 = false := pc_1
  clear pc_1
  rcases oc_1 with ⟨rfl, c_1⟩ | ⟨rfl, c_1⟩
  · refine lv_if_eq (tgt := 17) hx hb dX6_says_4 (by decide) (fun c_3 => absurd c_3 (by decide)) (fun c_3 => ?_)
    refine lv_iload_n hx hb dX6_says_7 rfl (lv_at hl 2 rfl) ?_
    refine lv_iconst (v := 0) hx hb dX6_says_8 (by decide) ?_
    refine lv_bipush (v := 6) hx hb dX6_says_9 (by decide) ?_
    refine gx_pi hP hS (gx_runS (na := 3) (As := [.int kv, .int 0, .int 6]) (rest := []) C hl.1 hK (gx_subP (wc := ([] : va_W)) hP [] rfl) ((hD.sub (ws' := ([] : va_W)) [] (by decide) rfl).weaken (fun _ _ _ _ => trivial)) (k_isBetween l D k kv 0 6 _) gS_RX6_57 (by decide +kernel) rfl rfl ⟨Nat.le_of_ble_eq_true rfl, Nat.le_of_ble_eq_true rfl⟩ rfl rfl (Nat.le_of_ble_eq_true rfl) dX6_says_11 ⟨Nat.le_of_ble_eq_true rfl, Nat.le_of_ble_eq_true rfl⟩) (fun r_5 H locs pc_4 hP hS => ?_)
    have oc_4 : r_5 = 1 ∧ gx_b kv 0 6 = true ∨ r_5 = 0 ∧ gx_b kv 0 6 = false := pc_4
    clear pc_4
    rcases oc_4 with ⟨rfl, c_4⟩ | ⟨rfl, c_4⟩
    · refine lv_if_ne (tgt := 24) hx hb dX6_says_14 (by decide) (fun c_6 => ?_) (fun c_6 => absurd c_6 (by decide))
      refine lv_aload_n hx hb dX6_says_24 rfl (lv_at hl 0 rfl) ?_
      refine lv_iload_n hx hb dX6_says_25 rfl (lv_at hl 1 rfl) ?_
      refine gx_pi hP hS (gx_runV (na := 1) (As := [.int sv]) (rest := []) (ci := 4) C hl.1 hK (gx_subP (wc := ([((ad 0), .inr (4, [.ref (ad 1), .ref (ad 2), .ref (ad 3), .ref (ad 4), .ref (ad 5), .ref (ad 6), .ref (ad 7), .ref (ad 8), .ref (ad 9), .int 0])), ((ad 5), .inl (k 2, 8, .inr (.inr (.inr (.inr fs))))), (a, .inr (1, [.ref el, .int 0, .int 0, .int (-1)]))] : va_W)) hP [0, 2, 3] rfl) ((hD.sub (ws' := ([((ad 0), .inr (4, [.ref (ad 1), .ref (ad 2), .ref (ad 3), .ref (ad 4), .ref (ad 5), .ref (ad 6), .ref (ad 7), .ref (ad 8), .ref (ad 9), .int 0])), ((ad 5), .inl (k 2, 8, .inr (.inr (.inr (.inr fs))))), (a, .inr (1, [.ref el, .int 0, .int 0, .int (-1)]))] : va_W)) [0, 2, 3] (by decide) rfl).weaken (fun _ _ _ _ => trivial)) (k_ruleTrouble l D k ad fs a el sv c_1 (hf c_1) _) gV_RX6_110 (by decide +kernel) rfl rfl ⟨Nat.le_of_ble_eq_true rfl, Nat.le_of_ble_eq_true rfl⟩ rfl rfl rfl rfl (Nat.le_of_ble_eq_true rfl) dX6_says_26 ⟨Nat.le_of_ble_eq_true rfl, Nat.le_of_ble_eq_true rfl⟩) (fun r_8 H locs c_7 hP hS => ?_)
      have c_7 : r_8 = -4 := c_7
      subst c_7
      refine lv_istore_n (lv' := [(3, .int (-4)), (0, .ref (ad 0)), (1, .int sv), (2, .int kv)]) hx hb dX6_says_29 rfl hl (by decide) rfl (fun ls hl => ?_)
      refine lv_iload_n hx hb dX6_says_30 rfl (lv_at hl 0 rfl) ?_
      refine lv_if_ne (tgt := 53) hx hb dX6_says_31 (by decide) (fun c_9 => ?_) (fun c_9 => absurd c_9 (by decide))
      refine lv_iload_n hx hb dX6_says_53 rfl (lv_at hl 0 rfl) ?_
      refine lv_if_eq (tgt := 63) hx hb dX6_says_54 (by decide) (fun c_10 => absurd c_10 (by decide)) (fun c_10 => ?_)
      refine lv_aload_n hx hb dX6_says_57 rfl (lv_at hl 1 rfl) ?_
      refine lv_iload_n hx hb dX6_says_58 rfl (lv_at hl 0 rfl) ?_
      refine gx_ei (wc := ([((ad 0), .inr (4, [.ref (ad 1), .ref (ad 2), .ref (ad 3), .ref (ad 4), .ref (ad 5), .ref (ad 6), .ref (ad 7), .ref (ad 8), .ref (ad 9), .int 0])), ((ad 9), .inl (k 0, 5, .inl (fun _ => 0)))] : va_W)) (wr := [((ad 5), .inl (k 2, 8, .inr (.inr (.inr (.inr fs))))), (a, .inr (1, [.ref el, .int 0, .int 0, .int (-1)]))]) (isC := [0, 1]) (isR := [2, 3]) hP hD hS hA rfl rfl (by decide) (by decide) (gx_runV (na := 1) (As := [.int (-4)]) (rest := []) (ci := 4) C hl.1 hK (gx_subP (wc := ([((ad 0), .inr (4, [.ref (ad 1), .ref (ad 2), .ref (ad 3), .ref (ad 4), .ref (ad 5), .ref (ad 6), .ref (ad 7), .ref (ad 8), .ref (ad 9), .int 0])), ((ad 9), .inl (k 0, 5, .inl (fun _ => 0)))] : va_W)) hP [0, 1] rfl) ((hD.sub (ws' := ([((ad 0), .inr (4, [.ref (ad 1), .ref (ad 2), .ref (ad 3), .ref (ad 4), .ref (ad 5), .ref (ad 6), .ref (ad 7), .ref (ad 8), .ref (ad 9), .int 0])), ((ad 9), .inl (k 0, 5, .inl (fun _ => 0)))] : va_W)) [0, 1] (by decide) rfl).weaken (fun _ _ _ _ => trivial)) (k_refuse4 l D k ad _) gV_RX6_61 (by decide +kernel) rfl rfl ⟨Nat.le_of_ble_eq_true rfl, Nat.le_of_ble_eq_true rfl⟩ rfl rfl rfl rfl (Nat.le_of_ble_eq_true rfl) dX6_says_59 ⟨Nat.le_of_ble_eq_true rfl, Nat.le_of_ble_eq_true rfl⟩) (fun r_13 u_11 H locs h_12 hP hD hS => ?_)
      have h_12 : r_13 = -4 := h_12
      have hP : va_P D gx_cl [((ad 5), .inl (k 2, 8, .inr (.inr (.inr (.inr fs))))), (a, .inr (1, [.ref el, .int 0, .int 0, .int (-1)]))] H := hP
      have hD : va_D A [((ad 5), .inl (k 2, 8, .inr (.inr (.inr (.inr fs))))), (a, .inr (1, [.ref el, .int 0, .int 0, .int (-1)]))] := hD
      have eh_12 := h_12
      subst eh_12
      exact gx_retI C (u := ()) gx_nil gx_noneD hS (by simp [gs_says, c_1, c_4]) dX6_says_62
    · refine lv_if_ne (tgt := 24) hx hb dX6_says_14 (by decide) (fun c_15 => absurd (by decide) c_15) (fun c_15 => ?_)
      refine lv_aload_n hx hb dX6_says_17 rfl (lv_at hl 0 rfl) ?_
      refine lv_bipush (v := (-2)) hx hb dX6_says_18 (by decide) ?_
      refine gx_ei (wc := ([((ad 0), .inr (4, [.ref (ad 1), .ref (ad 2), .ref (ad 3), .ref (ad 4), .ref (ad 5), .ref (ad 6), .ref (ad 7), .ref (ad 8), .ref (ad 9), .int 0])), ((ad 9), .inl (k 0, 5, .inl (fun _ => 0)))] : va_W)) (wr := [((ad 5), .inl (k 2, 8, .inr (.inr (.inr (.inr fs))))), (a, .inr (1, [.ref el, .int 0, .int 0, .int (-1)]))]) (isC := [0, 1]) (isR := [2, 3]) hP hD hS hA rfl rfl (by decide) (by decide) (gx_runV (na := 1) (As := [.int (-2)]) (rest := []) (ci := 4) C hl.1 hK (gx_subP (wc := ([((ad 0), .inr (4, [.ref (ad 1), .ref (ad 2), .ref (ad 3), .ref (ad 4), .ref (ad 5), .ref (ad 6), .ref (ad 7), .ref (ad 8), .ref (ad 9), .int 0])), ((ad 9), .inl (k 0, 5, .inl (fun _ => 0)))] : va_W)) hP [0, 1] rfl) ((hD.sub (ws' := ([((ad 0), .inr (4, [.ref (ad 1), .ref (ad 2), .ref (ad 3), .ref (ad 4), .ref (ad 5), .ref (ad 6), .ref (ad 7), .ref (ad 8), .ref (ad 9), .int 0])), ((ad 9), .inl (k 0, 5, .inl (fun _ => 0)))] : va_W)) [0, 1] (by decide) rfl).weaken (fun _ _ _ _ => trivial)) (k_refuse2 l D k ad _) gV_RX6_61 (by decide +kernel) rfl rfl ⟨Nat.le_of_ble_eq_true rfl, Nat.le_of_ble_eq_true rfl⟩ rfl rfl rfl rfl (Nat.le_of_ble_eq_true rfl) dX6_says_20 ⟨Nat.le_of_ble_eq_true rfl, Nat.le_of_ble_eq_true rfl⟩) (fun r_18 u_16 H locs h_17 hP hD hS => ?_)
      have h_17 : r_18 = -2 := h_17
      have hP : va_P D gx_cl [((ad 5), .inl (k 2, 8, .inr (.inr (.inr (.inr fs))))), (a, .inr (1, [.ref el, .int 0, .int 0, .int (-1)]))] H := hP
      have hD : va_D A [((ad 5), .inl (k 2, 8, .inr (.inr (.inr (.inr fs))))), (a, .inr (1, [.ref el, .int 0, .int 0, .int (-1)]))] := hD
      have eh_17 := h_17
      subst eh_17
      exact gx_retI C (u := ()) gx_nil gx_noneD hS (by simp [gs_says, c_1, c_4]) dX6_says_23
  · refine lv_if_eq (tgt := 17) hx hb dX6_says_4 (by decide) (fun c_20 => ?_) (fun c_20 => absurd (by decide) c_20)
    refine lv_aload_n hx hb dX6_says_17 rfl (lv_at hl 0 rfl) ?_
    refine lv_bipush (v := (-2)) hx hb dX6_says_18 (by decide) ?_
    refine gx_ei (wc := ([((ad 0), .inr (4, [.ref (ad 1), .ref (ad 2), .ref (ad 3), .ref (ad 4), .ref (ad 5), .ref (ad 6), .ref (ad 7), .ref (ad 8), .ref (ad 9), .int 0])), ((ad 9), .inl (k 0, 5, .inl (fun _ => 0)))] : va_W)) (wr := [((ad 5), .inl (k 2, 8, .inr (.inr (.inr (.inr fs))))), (a, .inr (1, [.ref el, .int 0, .int 0, .int (-1)]))]) (isC := [0, 1]) (isR := [2, 3]) hP hD hS hA rfl rfl (by decide) (by decide) (gx_runV (na := 1) (As := [.int (-2)]) (rest := []) (ci := 4) C hl.1 hK (gx_subP (wc := ([((ad 0), .inr (4, [.ref (ad 1), .ref (ad 2), .ref (ad 3), .ref (ad 4), .ref (ad 5), .ref (ad 6), .ref (ad 7), .ref (ad 8), .ref (ad 9), .int 0])), ((ad 9), .inl (k 0, 5, .inl (fun _ => 0)))] : va_W)) hP [0, 1] rfl) ((hD.sub (ws' := ([((ad 0), .inr (4, [.ref (ad 1), .ref (ad 2), .ref (ad 3), .ref (ad 4), .ref (ad 5), .ref (ad 6), .ref (ad 7), .ref (ad 8), .ref (ad 9), .int 0])), ((ad 9), .inl (k 0, 5, .inl (fun _ => 0)))] : va_W)) [0, 1] (by decide) rfl).weaken (fun _ _ _ _ => trivial)) (k_refuse2 l D k ad _) gV_RX6_61 (by decide +kernel) rfl rfl ⟨Nat.le_of_ble_eq_true rfl, Nat.le_of_ble_eq_true rfl⟩ rfl rfl rfl rfl (Nat.le_of_ble_eq_true rfl) dX6_says_20 ⟨Nat.le_of_ble_eq_true rfl, Nat.le_of_ble_eq_true rfl⟩) (fun r_23 u_21 H locs h_22 hP hD hS => ?_)
    have h_22 : r_23 = -2 := h_22
    have hP : va_P D gx_cl [((ad 5), .inl (k 2, 8, .inr (.inr (.inr (.inr fs))))), (a, .inr (1, [.ref el, .int 0, .int 0, .int (-1)]))] H := hP
    have hD : va_D A [((ad 5), .inl (k 2, 8, .inr (.inr (.inr (.inr fs))))), (a, .inr (1, [.ref el, .int 0, .int 0, .int (-1)]))] := hD
    have eh_22 := h_22
    subst eh_22
    exact gx_retI C (u := ()) gx_nil gx_noneD hS (by simp [gs_says, c_1]) dX6_says_23
set_option maxHeartbeats 4000000 in
set_option maxRecDepth 100000 in
theorem x_road (l : Launch) (D : va_G) (k : Nat → ClassId) (ad : Nat → Nat) (fv : Int32) (tv : Int32) (mv : Int32) (zv : Int32) (sz : Nat) : Met l yX6_road (.code yX6_road cX6_road 5 (some .int) :: gx_T) ({ frames := 2, cells := 0, slots := 0, locals := 43 }) (gx_Pre D k [.ref (ad 0), .int fv, .int tv, .int mv, .int zv] ([((ad 0), .inr (4, [.ref (ad 1), .ref (ad 2), .ref (ad 3), .ref (ad 4), .ref (ad 5), .ref (ad 6), .ref (ad 7), .ref (ad 8), .ref (ad 9), .int 0])), ((ad 1), .inr (0, [.ref (ad 10), .ref (ad 11), .ref (ad 12), .ref (ad 13), .ref (ad 14), .ref (ad 15), .ref (ad 16), .ref (ad 17), .ref (ad 18), .int 0, .int 0, .int 0, .int 0, .int 1, .int 0, .int 0, .int 0])), ((ad 9), .inl (k 0, 5, .inl (fun _ => 0))), ((ad 10), .inl (k 0, 16, .inl (fun _ => 0))), ((ad 11), .inl (k 0, 16, .inl (fun _ => 0))), ((ad 12), .inl (k 0, 16, .inl (fun _ => 0))), ((ad 13), .inl (k 0, 16, .inl (fun _ => 0)))]) sz) (gx_Qi D (fun (r : Int32) (u : Unit) => r = (gs_road fv tv mv)) (fun (u : Unit) => ([] : va_W)) (va_A ([((ad 0), .inr (4, [.ref (ad 1), .ref (ad 2), .ref (ad 3), .ref (ad 4), .ref (ad 5), .ref (ad 6), .ref (ad 7), .ref (ad 8), .ref (ad 9), .int 0])), ((ad 1), .inr (0, [.ref (ad 10), .ref (ad 11), .ref (ad 12), .ref (ad 13), .ref (ad 14), .ref (ad 15), .ref (ad 16), .ref (ad 17), .ref (ad 18), .int 0, .int 0, .int 0, .int 0, .int 1, .int 0, .int 0, .int 0])), ((ad 9), .inl (k 0, 5, .inl (fun _ => 0))), ((ad 10), .inl (k 0, 16, .inl (fun _ => 0))), ((ad 11), .inl (k 0, 16, .inl (fun _ => 0))), ((ad 12), .inl (k 0, 16, .inl (fun _ => 0))), ((ad 13), .inl (k 0, 16, .inl (fun _ => 0)))]) sz)) 0 0 (va_A ([((ad 0), .inr (4, [.ref (ad 1), .ref (ad 2), .ref (ad 3), .ref (ad 4), .ref (ad 5), .ref (ad 6), .ref (ad 7), .ref (ad 8), .ref (ad 9), .int 0])), ((ad 1), .inr (0, [.ref (ad 10), .ref (ad 11), .ref (ad 12), .ref (ad 13), .ref (ad 14), .ref (ad 15), .ref (ad 16), .ref (ad 17), .ref (ad 18), .int 0, .int 0, .int 0, .int 0, .int 1, .int 0, .int 0, .int 0])), ((ad 9), .inl (k 0, 5, .inl (fun _ => 0))), ((ad 10), .inl (k 0, 16, .inl (fun _ => 0))), ((ad 11), .inl (k 0, 16, .inl (fun _ => 0))), ((ad 12), .inl (k 0, 16, .inl (fun _ => 0))), ((ad 13), .inl (k 0, 16, .inl (fun _ => 0)))]) sz) := by
  refine gx_metE (Qc := fun A => gx_Qi D (fun (r : Int32) (u : Unit) => r = (gs_road fv tv mv)) (fun (u : Unit) => ([] : va_W)) A) (y := yX6_road) (cc := cX6_road) (n := 5) (ret := (some .int)) (av := [.ref (ad 0), .int fv, .int tv, .int mv, .int zv]) (by decide) (Nat.le_of_ble_eq_true rfl) ?_
  intro p e s m below meth c A ls C hA hP hD hK hS hl
  obtain ⟨hx, hb, hr, hml, hown, hT, hlk, hin⟩ := id C
  have hown : s.vm.findClass RX6 = some m.cls := hown
  have hl : lv_has ls 5 [(0, .ref (ad 0)), (1, .int fv), (2, .int tv), (3, .int mv), (4, .int zv)] := hl
  refine lv_iload_n hx hb dX6_road_0 rfl (lv_at hl 1 rfl) ?_
  refine gx_pi hP hS (gx_runS (na := 1) (As := [.int fv]) (rest := []) C hl.1 hK (gx_subP (wc := ([] : va_W)) hP [] rfl) ((hD.sub (ws' := ([] : va_W)) [] (by decide) rfl).weaken (fun _ _ _ _ => trivial)) (k_isPlace l D k fv _) gS_RX6_130 (by decide +kernel) rfl rfl ⟨Nat.le_of_ble_eq_true rfl, Nat.le_of_ble_eq_true rfl⟩ rfl rfl (Nat.le_of_ble_eq_true rfl) dX6_road_1 ⟨Nat.le_of_ble_eq_true rfl, Nat.le_of_ble_eq_true rfl⟩) (fun r_2 H locs pc_1 hP hS => ?_)
  have oc_1 : r_2 = 1 ∧ gx_b fv 0 7 = true ∨ r_2 = 0 ∧ gx_b fv 0 7 = false := pc_1
  clear pc_1
  rcases oc_1 with ⟨rfl, c_1⟩ | ⟨rfl, c_1⟩
  · refine lv_if_eq (tgt := 29) hx hb dX6_road_4 (by decide) (fun c_3 => absurd c_3 (by decide)) (fun c_3 => ?_)
    refine lv_iload_n hx hb dX6_road_7 rfl (lv_at hl 2 rfl) ?_
    refine gx_pi hP hS (gx_runS (na := 1) (As := [.int tv]) (rest := []) C hl.1 hK (gx_subP (wc := ([] : va_W)) hP [] rfl) ((hD.sub (ws' := ([] : va_W)) [] (by decide) rfl).weaken (fun _ _ _ _ => trivial)) (k_isPlace l D k tv _) gS_RX6_130 (by decide +kernel) rfl rfl ⟨Nat.le_of_ble_eq_true rfl, Nat.le_of_ble_eq_true rfl⟩ rfl rfl (Nat.le_of_ble_eq_true rfl) dX6_road_8 ⟨Nat.le_of_ble_eq_true rfl, Nat.le_of_ble_eq_true rfl⟩) (fun r_5 H locs pc_4 hP hS => ?_)
    have oc_4 : r_5 = 1 ∧ gx_b tv 0 7 = true ∨ r_5 = 0 ∧ gx_b tv 0 7 = false := pc_4
    clear pc_4
    rcases oc_4 with ⟨rfl, c_4⟩ | ⟨rfl, c_4⟩
    · refine lv_if_eq (tgt := 29) hx hb dX6_road_11 (by decide) (fun c_6 => absurd c_6 (by decide)) (fun c_6 => ?_)
      refine lv_iload_n hx hb dX6_road_14 rfl (lv_at hl 1 rfl) ?_
      refine lv_iload_n hx hb dX6_road_15 rfl (lv_at hl 2 rfl) ?_
      refine lv_icmp_eq (tgt := 29) hx hb dX6_road_16 (by decide) (fun c_7 => ?_) (fun c_7 => ?_)
      · refine lv_aload_n hx hb dX6_road_29 rfl (lv_at hl 0 rfl) ?_
        refine lv_bipush (v := (-2)) hx hb dX6_road_30 (by decide) ?_
        refine gx_ei (wc := ([((ad 0), .inr (4, [.ref (ad 1), .ref (ad 2), .ref (ad 3), .ref (ad 4), .ref (ad 5), .ref (ad 6), .ref (ad 7), .ref (ad 8), .ref (ad 9), .int 0])), ((ad 9), .inl (k 0, 5, .inl (fun _ => 0)))] : va_W)) (wr := [((ad 1), .inr (0, [.ref (ad 10), .ref (ad 11), .ref (ad 12), .ref (ad 13), .ref (ad 14), .ref (ad 15), .ref (ad 16), .ref (ad 17), .ref (ad 18), .int 0, .int 0, .int 0, .int 0, .int 1, .int 0, .int 0, .int 0])), ((ad 10), .inl (k 0, 16, .inl (fun _ => 0))), ((ad 11), .inl (k 0, 16, .inl (fun _ => 0))), ((ad 12), .inl (k 0, 16, .inl (fun _ => 0))), ((ad 13), .inl (k 0, 16, .inl (fun _ => 0)))]) (isC := [0, 2]) (isR := [1, 3, 4, 5, 6]) hP hD hS hA rfl rfl (by decide) (by decide) (gx_runV (na := 1) (As := [.int (-2)]) (rest := []) (ci := 4) C hl.1 hK (gx_subP (wc := ([((ad 0), .inr (4, [.ref (ad 1), .ref (ad 2), .ref (ad 3), .ref (ad 4), .ref (ad 5), .ref (ad 6), .ref (ad 7), .ref (ad 8), .ref (ad 9), .int 0])), ((ad 9), .inl (k 0, 5, .inl (fun _ => 0)))] : va_W)) hP [0, 2] rfl) ((hD.sub (ws' := ([((ad 0), .inr (4, [.ref (ad 1), .ref (ad 2), .ref (ad 3), .ref (ad 4), .ref (ad 5), .ref (ad 6), .ref (ad 7), .ref (ad 8), .ref (ad 9), .int 0])), ((ad 9), .inl (k 0, 5, .inl (fun _ => 0)))] : va_W)) [0, 2] (by decide) rfl).weaken (fun _ _ _ _ => trivial)) (k_refuse2 l D k ad _) gV_RX6_61 (by decide +kernel) rfl rfl ⟨Nat.le_of_ble_eq_true rfl, Nat.le_of_ble_eq_true rfl⟩ rfl rfl rfl rfl (Nat.le_of_ble_eq_true rfl) dX6_road_32 ⟨Nat.le_of_ble_eq_true rfl, Nat.le_of_ble_eq_true rfl⟩) (fun r_10 u_8 H locs h_9 hP hD hS => ?_)
        have h_9 : r_10 = -2 := h_9
        have hP : va_P D gx_cl [((ad 1), .inr (0, [.ref (ad 10), .ref (ad 11), .ref (ad 12), .ref (ad 13), .ref (ad 14), .ref (ad 15), .ref (ad 16), .ref (ad 17), .ref (ad 18), .int 0, .int 0, .int 0, .int 0, .int 1, .int 0, .int 0, .int 0])), ((ad 10), .inl (k 0, 16, .inl (fun _ => 0))), ((ad 11), .inl (k 0, 16, .inl (fun _ => 0))), ((ad 12), .inl (k 0, 16, .inl (fun _ => 0))), ((ad 13), .inl (k 0, 16, .inl (fun _ => 0)))] H := hP
        have hD : va_D A [((ad 1), .inr (0, [.ref (ad 10), .ref (ad 11), .ref (ad 12), .ref (ad 13), .ref (ad 14), .ref (ad 15), .ref (ad 16), .ref (ad 17), .ref (ad 18), .int 0, .int 0, .int 0, .int 0, .int 1, .int 0, .int 0, .int 0])), ((ad 10), .inl (k 0, 16, .inl (fun _ => 0))), ((ad 11), .inl (k 0, 16, .inl (fun _ => 0))), ((ad 12), .inl (k 0, 16, .inl (fun _ => 0))), ((ad 13), .inl (k 0, 16, .inl (fun _ => 0)))] := hD
        have eh_9 := h_9
        subst eh_9
        exact gx_retI C (u := ()) gx_nil gx_noneD hS (by simp [gs_road, c_1, c_4, c_7]) dX6_road_35
      · refine lv_iload_n hx hb dX6_road_19 rfl (lv_at hl 3 rfl) ?_
        refine lv_iconst (v := 1) hx hb dX6_road_20 (by decide) ?_
        refine lv_bipush (v := 60) hx hb dX6_road_21 (by decide) ?_
        refine gx_pi hP hS (gx_runS (na := 3) (As := [.int mv, .int 1, .int 60]) (rest := []) C hl.1 hK (gx_subP (wc := ([] : va_W)) hP [] rfl) ((hD.sub (ws' := ([] : va_W)) [] (by decide) rfl).weaken (fun _ _ _ _ => trivial)) (k_isBetween l D k mv 1 60 _) gS_RX6_57 (by decide +kernel) rfl rfl ⟨Nat.le_of_ble_eq_true rfl, Nat.le_of_ble_eq_true rfl⟩ rfl rfl (Nat.le_of_ble_eq_true rfl) dX6_road_23 ⟨Nat.le_of_ble_eq_true rfl, Nat.le_of_ble_eq_true rfl⟩) (fun r_13 H locs pc_12 hP hS => ?_)
        have oc_12 : r_13 = 1 ∧ gx_b mv 1 60 = true ∨ r_13 = 0 ∧ gx_b mv 1 60 = false := pc_12
        clear pc_12
        rcases oc_12 with ⟨rfl, c_12⟩ | ⟨rfl, c_12⟩
        · refine lv_if_ne (tgt := 36) hx hb dX6_road_26 (by decide) (fun c_14 => ?_) (fun c_14 => absurd c_14 (by decide))
          refine lv_aload_n hx hb dX6_road_36 rfl (lv_at hl 0 rfl) ?_
          refine va_get (D := D) (ci := 4) (v := .ref (ad 1)) (C := RX6) (T := TX6) (N := 10) hx hb hT iw_TX6 hown hK.1 hP 0 rfl rfl 0 (by decide) (hT _ wd_271) (fun _ h9 => h9) rfl dX6_road_37 ?_
          refine va_get (D := D) (ci := 0) (v := .int 0) (C := RX1) (T := TX1) (N := 17) hx hb hT iw_TX1 hown hK.1 hP 1 rfl rfl 9 (by decide) (hT _ wd_135) (fun _ h9 => h9) rfl dX6_road_40 ?_
          refine lv_bipush (v := 16) hx hb dX6_road_43 (by decide) ?_
          refine lv_icmp_ne (tgt := 57) hx hb dX6_road_45 (by decide) (fun c_15 => ?_) (fun c_15 => absurd c_15 (by decide))
          refine lv_aload_n hx hb dX6_road_57 rfl (lv_at hl 0 rfl) ?_
          refine va_get (D := D) (ci := 4) (v := .ref (ad 1)) (C := RX6) (T := TX6) (N := 10) hx hb hT iw_TX6 hown hK.1 hP 0 rfl rfl 0 (by decide) (hT _ wd_271) (fun _ h9 => h9) rfl dX6_road_58 ?_
          refine lv_iload_n hx hb dX6_road_61 rfl (lv_at hl 1 rfl) ?_
          refine lv_iload_n hx hb dX6_road_62 rfl (lv_at hl 2 rfl) ?_
          refine lv_iload_n hx hb dX6_road_63 rfl (lv_at hl 3 rfl) ?_
          refine lv_iload hx hb dX6_road_64 (lv_at hl 4 rfl) ?_
          refine gx_ei (wc := ([((ad 1), .inr (0, [.ref (ad 10), .ref (ad 11), .ref (ad 12), .ref (ad 13), .ref (ad 14), .ref (ad 15), .ref (ad 16), .ref (ad 17), .ref (ad 18), .int 0, .int 0, .int 0, .int 0, .int 1, .int 0, .int 0, .int 0])), ((ad 10), .inl (k 0, 16, .inl (fun _ => 0))), ((ad 11), .inl (k 0, 16, .inl (fun _ => 0))), ((ad 12), .inl (k 0, 16, .inl (fun _ => 0))), ((ad 13), .inl (k 0, 16, .inl (fun _ => 0)))] : va_W)) (wr := [((ad 0), .inr (4, [.ref (ad 1), .ref (ad 2), .ref (ad 3), .ref (ad 4), .ref (ad 5), .ref (ad 6), .ref (ad 7), .ref (ad 8), .ref (ad 9), .int 0])), ((ad 9), .inl (k 0, 5, .inl (fun _ => 0)))]) (isC := [1, 3, 4, 5, 6]) (isR := [0, 2]) hP hD hS hA rfl rfl (by decide) (by decide) (gx_runV (na := 4) (As := [.int fv, .int tv, .int mv, .int zv]) (rest := []) (ci := 0) C hl.1 hK (gx_subP (wc := ([((ad 1), .inr (0, [.ref (ad 10), .ref (ad 11), .ref (ad 12), .ref (ad 13), .ref (ad 14), .ref (ad 15), .ref (ad 16), .ref (ad 17), .ref (ad 18), .int 0, .int 0, .int 0, .int 0, .int 1, .int 0, .int 0, .int 0])), ((ad 10), .inl (k 0, 16, .inl (fun _ => 0))), ((ad 11), .inl (k 0, 16, .inl (fun _ => 0))), ((ad 12), .inl (k 0, 16, .inl (fun _ => 0))), ((ad 13), .inl (k 0, 16, .inl (fun _ => 0)))] : va_W)) hP [1, 3, 4, 5, 6] rfl) ((hD.sub (ws' := ([((ad 1), .inr (0, [.ref (ad 10), .ref (ad 11), .ref (ad 12), .ref (ad 13), .ref (ad 14), .ref (ad 15), .ref (ad 16), .ref (ad 17), .ref (ad 18), .int 0, .int 0, .int 0, .int 0, .int 1, .int 0, .int 0, .int 0])), ((ad 10), .inl (k 0, 16, .inl (fun _ => 0))), ((ad 11), .inl (k 0, 16, .inl (fun _ => 0))), ((ad 12), .inl (k 0, 16, .inl (fun _ => 0))), ((ad 13), .inl (k 0, 16, .inl (fun _ => 0)))] : va_W)) [1, 3, 4, 5, 6] (by decide) rfl).weaken (fun _ _ _ _ => trivial)) (k_build l D k (ad 1) (ad 10) (ad 11) (ad 12) (ad 13) (ad 14) (ad 15) (ad 16) (ad 17) (ad 18) fv tv mv zv _) gV_RX6_136 (by decide +kernel) rfl rfl ⟨Nat.le_of_ble_eq_true rfl, Nat.le_of_ble_eq_true rfl⟩ rfl rfl rfl rfl (Nat.le_of_ble_eq_true rfl) dX6_road_66 ⟨Nat.le_of_ble_eq_true rfl, Nat.le_of_ble_eq_true rfl⟩) (fun r_18 u_16 H locs h_17 hP hD hS => ?_)
          have h_17 : r_18 = 0 := h_17
          have hP : va_P D gx_cl [((ad 0), .inr (4, [.ref (ad 1), .ref (ad 2), .ref (ad 3), .ref (ad 4), .ref (ad 5), .ref (ad 6), .ref (ad 7), .ref (ad 8), .ref (ad 9), .int 0])), ((ad 9), .inl (k 0, 5, .inl (fun _ => 0)))] H := hP
          have hD : va_D A [((ad 0), .inr (4, [.ref (ad 1), .ref (ad 2), .ref (ad 3), .ref (ad 4), .ref (ad 5), .ref (ad 6), .ref (ad 7), .ref (ad 8), .ref (ad 9), .int 0])), ((ad 9), .inl (k 0, 5, .inl (fun _ => 0)))] := hD
          have eh_17 := h_17
          subst eh_17
          exact gx_retI C (u := ()) gx_nil gx_noneD hS (by simp [gs_road, c_1, c_4, c_12, c_7]) dX6_road_69
        · refine lv_if_ne (tgt := 36) hx hb dX6_road_26 (by decide) (fun c_20 => absurd (by decide) c_20) (fun c_20 => ?_)
          refine lv_aload_n hx hb dX6_road_29 rfl (lv_at hl 0 rfl) ?_
          refine lv_bipush (v := (-2)) hx hb dX6_road_30 (by decide) ?_
          refine gx_ei (wc := ([((ad 0), .inr (4, [.ref (ad 1), .ref (ad 2), .ref (ad 3), .ref (ad 4), .ref (ad 5), .ref (ad 6), .ref (ad 7), .ref (ad 8), .ref (ad 9), .int 0])), ((ad 9), .inl (k 0, 5, .inl (fun _ => 0)))] : va_W)) (wr := [((ad 1), .inr (0, [.ref (ad 10), .ref (ad 11), .ref (ad 12), .ref (ad 13), .ref (ad 14), .ref (ad 15), .ref (ad 16), .ref (ad 17), .ref (ad 18), .int 0, .int 0, .int 0, .int 0, .int 1, .int 0, .int 0, .int 0])), ((ad 10), .inl (k 0, 16, .inl (fun _ => 0))), ((ad 11), .inl (k 0, 16, .inl (fun _ => 0))), ((ad 12), .inl (k 0, 16, .inl (fun _ => 0))), ((ad 13), .inl (k 0, 16, .inl (fun _ => 0)))]) (isC := [0, 2]) (isR := [1, 3, 4, 5, 6]) hP hD hS hA rfl rfl (by decide) (by decide) (gx_runV (na := 1) (As := [.int (-2)]) (rest := []) (ci := 4) C hl.1 hK (gx_subP (wc := ([((ad 0), .inr (4, [.ref (ad 1), .ref (ad 2), .ref (ad 3), .ref (ad 4), .ref (ad 5), .ref (ad 6), .ref (ad 7), .ref (ad 8), .ref (ad 9), .int 0])), ((ad 9), .inl (k 0, 5, .inl (fun _ => 0)))] : va_W)) hP [0, 2] rfl) ((hD.sub (ws' := ([((ad 0), .inr (4, [.ref (ad 1), .ref (ad 2), .ref (ad 3), .ref (ad 4), .ref (ad 5), .ref (ad 6), .ref (ad 7), .ref (ad 8), .ref (ad 9), .int 0])), ((ad 9), .inl (k 0, 5, .inl (fun _ => 0)))] : va_W)) [0, 2] (by decide) rfl).weaken (fun _ _ _ _ => trivial)) (k_refuse2 l D k ad _) gV_RX6_61 (by decide +kernel) rfl rfl ⟨Nat.le_of_ble_eq_true rfl, Nat.le_of_ble_eq_true rfl⟩ rfl rfl rfl rfl (Nat.le_of_ble_eq_true rfl) dX6_road_32 ⟨Nat.le_of_ble_eq_true rfl, Nat.le_of_ble_eq_true rfl⟩) (fun r_23 u_21 H locs h_22 hP hD hS => ?_)
          have h_22 : r_23 = -2 := h_22
          have hP : va_P D gx_cl [((ad 1), .inr (0, [.ref (ad 10), .ref (ad 11), .ref (ad 12), .ref (ad 13), .ref (ad 14), .ref (ad 15), .ref (ad 16), .ref (ad 17), .ref (ad 18), .int 0, .int 0, .int 0, .int 0, .int 1, .int 0, .int 0, .int 0])), ((ad 10), .inl (k 0, 16, .inl (fun _ => 0))), ((ad 11), .inl (k 0, 16, .inl (fun _ => 0))), ((ad 12), .inl (k 0, 16, .inl (fun _ => 0))), ((ad 13), .inl (k 0, 16, .inl (fun _ => 0)))] H := hP
          have hD : va_D A [((ad 1), .inr (0, [.ref (ad 10), .ref (ad 11), .ref (ad 12), .ref (ad 13), .ref (ad 14), .ref (ad 15), .ref (ad 16), .ref (ad 17), .ref (ad 18), .int 0, .int 0, .int 0, .int 0, .int 1, .int 0, .int 0, .int 0])), ((ad 10), .inl (k 0, 16, .inl (fun _ => 0))), ((ad 11), .inl (k 0, 16, .inl (fun _ => 0))), ((ad 12), .inl (k 0, 16, .inl (fun _ => 0))), ((ad 13), .inl (k 0, 16, .inl (fun _ => 0)))] := hD
          have eh_22 := h_22
          subst eh_22
          exact gx_retI C (u := ()) gx_nil gx_noneD hS (by simp [gs_road, c_1, c_4, c_12, c_7]) dX6_road_35
    · refine lv_if_eq (tgt := 29) hx hb dX6_road_11 (by decide) (fun c_25 => ?_) (fun c_25 => absurd (by decide) c_25)
      refine lv_aload_n hx hb dX6_road_29 rfl (lv_at hl 0 rfl) ?_
      refine lv_bipush (v := (-2)) hx hb dX6_road_30 (by decide) ?_
      refine gx_ei (wc := ([((ad 0), .inr (4, [.ref (ad 1), .ref (ad 2), .ref (ad 3), .ref (ad 4), .ref (ad 5), .ref (ad 6), .ref (ad 7), .ref (ad 8), .ref (ad 9), .int 0])), ((ad 9), .inl (k 0, 5, .inl (fun _ => 0)))] : va_W)) (wr := [((ad 1), .inr (0, [.ref (ad 10), .ref (ad 11), .ref (ad 12), .ref (ad 13), .ref (ad 14), .ref (ad 15), .ref (ad 16), .ref (ad 17), .ref (ad 18), .int 0, .int 0, .int 0, .int 0, .int 1, .int 0, .int 0, .int 0])), ((ad 10), .inl (k 0, 16, .inl (fun _ => 0))), ((ad 11), .inl (k 0, 16, .inl (fun _ => 0))), ((ad 12), .inl (k 0, 16, .inl (fun _ => 0))), ((ad 13), .inl (k 0, 16, .inl (fun _ => 0)))]) (isC := [0, 2]) (isR := [1, 3, 4, 5, 6]) hP hD hS hA rfl rfl (by decide) (by decide) (gx_runV (na := 1) (As := [.int (-2)]) (rest := []) (ci := 4) C hl.1 hK (gx_subP (wc := ([((ad 0), .inr (4, [.ref (ad 1), .ref (ad 2), .ref (ad 3), .ref (ad 4), .ref (ad 5), .ref (ad 6), .ref (ad 7), .ref (ad 8), .ref (ad 9), .int 0])), ((ad 9), .inl (k 0, 5, .inl (fun _ => 0)))] : va_W)) hP [0, 2] rfl) ((hD.sub (ws' := ([((ad 0), .inr (4, [.ref (ad 1), .ref (ad 2), .ref (ad 3), .ref (ad 4), .ref (ad 5), .ref (ad 6), .ref (ad 7), .ref (ad 8), .ref (ad 9), .int 0])), ((ad 9), .inl (k 0, 5, .inl (fun _ => 0)))] : va_W)) [0, 2] (by decide) rfl).weaken (fun _ _ _ _ => trivial)) (k_refuse2 l D k ad _) gV_RX6_61 (by decide +kernel) rfl rfl ⟨Nat.le_of_ble_eq_true rfl, Nat.le_of_ble_eq_true rfl⟩ rfl rfl rfl rfl (Nat.le_of_ble_eq_true rfl) dX6_road_32 ⟨Nat.le_of_ble_eq_true rfl, Nat.le_of_ble_eq_true rfl⟩) (fun r_28 u_26 H locs h_27 hP hD hS => ?_)
      have h_27 : r_28 = -2 := h_27
      have hP : va_P D gx_cl [((ad 1), .inr (0, [.ref (ad 10), .ref (ad 11), .ref (ad 12), .ref (ad 13), .ref (ad 14), .ref (ad 15), .ref (ad 16), .ref (ad 17), .ref (ad 18), .int 0, .int 0, .int 0, .int 0, .int 1, .int 0, .int 0, .int 0])), ((ad 10), .inl (k 0, 16, .inl (fun _ => 0))), ((ad 11), .inl (k 0, 16, .inl (fun _ => 0))), ((ad 12), .inl (k 0, 16, .inl (fun _ => 0))), ((ad 13), .inl (k 0, 16, .inl (fun _ => 0)))] H := hP
      have hD : va_D A [((ad 1), .inr (0, [.ref (ad 10), .ref (ad 11), .ref (ad 12), .ref (ad 13), .ref (ad 14), .ref (ad 15), .ref (ad 16), .ref (ad 17), .ref (ad 18), .int 0, .int 0, .int 0, .int 0, .int 1, .int 0, .int 0, .int 0])), ((ad 10), .inl (k 0, 16, .inl (fun _ => 0))), ((ad 11), .inl (k 0, 16, .inl (fun _ => 0))), ((ad 12), .inl (k 0, 16, .inl (fun _ => 0))), ((ad 13), .inl (k 0, 16, .inl (fun _ => 0)))] := hD
      have eh_27 := h_27
      subst eh_27
      exact gx_retI C (u := ()) gx_nil gx_noneD hS (by simp [gs_road, c_1, c_4]) dX6_road_35
  · refine lv_if_eq (tgt := 29) hx hb dX6_road_4 (by decide) (fun c_30 => ?_) (fun c_30 => absurd (by decide) c_30)
    refine lv_aload_n hx hb dX6_road_29 rfl (lv_at hl 0 rfl) ?_
    refine lv_bipush (v := (-2)) hx hb dX6_road_30 (by decide) ?_
    refine gx_ei (wc := ([((ad 0), .inr (4, [.ref (ad 1), .ref (ad 2), .ref (ad 3), .ref (ad 4), .ref (ad 5), .ref (ad 6), .ref (ad 7), .ref (ad 8), .ref (ad 9), .int 0])), ((ad 9), .inl (k 0, 5, .inl (fun _ => 0)))] : va_W)) (wr := [((ad 1), .inr (0, [.ref (ad 10), .ref (ad 11), .ref (ad 12), .ref (ad 13), .ref (ad 14), .ref (ad 15), .ref (ad 16), .ref (ad 17), .ref (ad 18), .int 0, .int 0, .int 0, .int 0, .int 1, .int 0, .int 0, .int 0])), ((ad 10), .inl (k 0, 16, .inl (fun _ => 0))), ((ad 11), .inl (k 0, 16, .inl (fun _ => 0))), ((ad 12), .inl (k 0, 16, .inl (fun _ => 0))), ((ad 13), .inl (k 0, 16, .inl (fun _ => 0)))]) (isC := [0, 2]) (isR := [1, 3, 4, 5, 6]) hP hD hS hA rfl rfl (by decide) (by decide) (gx_runV (na := 1) (As := [.int (-2)]) (rest := []) (ci := 4) C hl.1 hK (gx_subP (wc := ([((ad 0), .inr (4, [.ref (ad 1), .ref (ad 2), .ref (ad 3), .ref (ad 4), .ref (ad 5), .ref (ad 6), .ref (ad 7), .ref (ad 8), .ref (ad 9), .int 0])), ((ad 9), .inl (k 0, 5, .inl (fun _ => 0)))] : va_W)) hP [0, 2] rfl) ((hD.sub (ws' := ([((ad 0), .inr (4, [.ref (ad 1), .ref (ad 2), .ref (ad 3), .ref (ad 4), .ref (ad 5), .ref (ad 6), .ref (ad 7), .ref (ad 8), .ref (ad 9), .int 0])), ((ad 9), .inl (k 0, 5, .inl (fun _ => 0)))] : va_W)) [0, 2] (by decide) rfl).weaken (fun _ _ _ _ => trivial)) (k_refuse2 l D k ad _) gV_RX6_61 (by decide +kernel) rfl rfl ⟨Nat.le_of_ble_eq_true rfl, Nat.le_of_ble_eq_true rfl⟩ rfl rfl rfl rfl (Nat.le_of_ble_eq_true rfl) dX6_road_32 ⟨Nat.le_of_ble_eq_true rfl, Nat.le_of_ble_eq_true rfl⟩) (fun r_33 u_31 H locs h_32 hP hD hS => ?_)
    have h_32 : r_33 = -2 := h_32
    have hP : va_P D gx_cl [((ad 1), .inr (0, [.ref (ad 10), .ref (ad 11), .ref (ad 12), .ref (ad 13), .ref (ad 14), .ref (ad 15), .ref (ad 16), .ref (ad 17), .ref (ad 18), .int 0, .int 0, .int 0, .int 0, .int 1, .int 0, .int 0, .int 0])), ((ad 10), .inl (k 0, 16, .inl (fun _ => 0))), ((ad 11), .inl (k 0, 16, .inl (fun _ => 0))), ((ad 12), .inl (k 0, 16, .inl (fun _ => 0))), ((ad 13), .inl (k 0, 16, .inl (fun _ => 0)))] H := hP
    have hD : va_D A [((ad 1), .inr (0, [.ref (ad 10), .ref (ad 11), .ref (ad 12), .ref (ad 13), .ref (ad 14), .ref (ad 15), .ref (ad 16), .ref (ad 17), .ref (ad 18), .int 0, .int 0, .int 0, .int 0, .int 1, .int 0, .int 0, .int 0])), ((ad 10), .inl (k 0, 16, .inl (fun _ => 0))), ((ad 11), .inl (k 0, 16, .inl (fun _ => 0))), ((ad 12), .inl (k 0, 16, .inl (fun _ => 0))), ((ad 13), .inl (k 0, 16, .inl (fun _ => 0)))] := hD
    have eh_32 := h_32
    subst eh_32
    exact gx_retI C (u := ()) gx_nil gx_noneD hS (by simp [gs_road, c_1]) dX6_road_35
set_option maxHeartbeats 4000000 in
set_option maxRecDepth 100000 in
theorem x_one (l : Launch) (D : va_G) (k : Nat → ClassId) (ad : Nat → Nat) (hv : Int32) (sz : Nat) : Met l yX6_one (.code yX6_one cX6_one 2 (some .int) :: gx_T) ({ frames := 2, cells := 0, slots := 0, locals := 44 }) (gx_Pre D k [.ref (ad 0), .int hv] ([((ad 0), .inr (4, [.ref (ad 1), .ref (ad 2), .ref (ad 3), .ref (ad 4), .ref (ad 5), .ref (ad 6), .ref (ad 7), .ref (ad 8), .ref (ad 9), .int 0])), ((ad 1), .inr (0, [.ref (ad 10), .ref (ad 11), .ref (ad 12), .ref (ad 13), .ref (ad 14), .ref (ad 15), .ref (ad 16), .ref (ad 17), .ref (ad 18), .int 0, .int 0, .int 0, .int 0, .int 1, .int 0, .int 0, .int 0])), ((ad 9), .inl (k 0, 5, .inl (fun _ => 0))), ((ad 14), .inl (k 0, 6, .inl (fun _ => 0))), ((ad 15), .inl (k 0, 6, .inl (fun _ => 0))), ((ad 16), .inl (k 0, 6, .inl (fun _ => 0)))]) sz) (gx_Qi D (fun (r : Int32) (u : Unit) => r = (gs_one hv)) (fun (u : Unit) => ([] : va_W)) (va_A ([((ad 0), .inr (4, [.ref (ad 1), .ref (ad 2), .ref (ad 3), .ref (ad 4), .ref (ad 5), .ref (ad 6), .ref (ad 7), .ref (ad 8), .ref (ad 9), .int 0])), ((ad 1), .inr (0, [.ref (ad 10), .ref (ad 11), .ref (ad 12), .ref (ad 13), .ref (ad 14), .ref (ad 15), .ref (ad 16), .ref (ad 17), .ref (ad 18), .int 0, .int 0, .int 0, .int 0, .int 1, .int 0, .int 0, .int 0])), ((ad 9), .inl (k 0, 5, .inl (fun _ => 0))), ((ad 14), .inl (k 0, 6, .inl (fun _ => 0))), ((ad 15), .inl (k 0, 6, .inl (fun _ => 0))), ((ad 16), .inl (k 0, 6, .inl (fun _ => 0)))]) sz)) 0 0 (va_A ([((ad 0), .inr (4, [.ref (ad 1), .ref (ad 2), .ref (ad 3), .ref (ad 4), .ref (ad 5), .ref (ad 6), .ref (ad 7), .ref (ad 8), .ref (ad 9), .int 0])), ((ad 1), .inr (0, [.ref (ad 10), .ref (ad 11), .ref (ad 12), .ref (ad 13), .ref (ad 14), .ref (ad 15), .ref (ad 16), .ref (ad 17), .ref (ad 18), .int 0, .int 0, .int 0, .int 0, .int 1, .int 0, .int 0, .int 0])), ((ad 9), .inl (k 0, 5, .inl (fun _ => 0))), ((ad 14), .inl (k 0, 6, .inl (fun _ => 0))), ((ad 15), .inl (k 0, 6, .inl (fun _ => 0))), ((ad 16), .inl (k 0, 6, .inl (fun _ => 0)))]) sz) := by
  refine gx_metE (Qc := fun A => gx_Qi D (fun (r : Int32) (u : Unit) => r = (gs_one hv)) (fun (u : Unit) => ([] : va_W)) A) (y := yX6_one) (cc := cX6_one) (n := 2) (ret := (some .int)) (av := [.ref (ad 0), .int hv]) (by decide) (Nat.le_of_ble_eq_true rfl) ?_
  intro p e s m below meth c A ls C hA hP hD hK hS hl
  obtain ⟨hx, hb, hr, hml, hown, hT, hlk, hin⟩ := id C
  have hown : s.vm.findClass RX6 = some m.cls := hown
  have hl : lv_has ls 2 [(0, .ref (ad 0)), (1, .int hv)] := hl
  refine lv_iload_n hx hb dX6_one_0 rfl (lv_at hl 1 rfl) ?_
  refine gx_pi hP hS (gx_runS (na := 1) (As := [.int hv]) (rest := []) C hl.1 hK (gx_subP (wc := ([] : va_W)) hP [] rfl) ((hD.sub (ws' := ([] : va_W)) [] (by decide) rfl).weaken (fun _ _ _ _ => trivial)) (k_isPlace l D k hv _) gS_RX6_130 (by decide +kernel) rfl rfl ⟨Nat.le_of_ble_eq_true rfl, Nat.le_of_ble_eq_true rfl⟩ rfl rfl (Nat.le_of_ble_eq_true rfl) dX6_one_1 ⟨Nat.le_of_ble_eq_true rfl, Nat.le_of_ble_eq_true rfl⟩) (fun r_2 H locs pc_1 hP hS => ?_)
  have oc_1 : r_2 = 1 ∧ gx_b hv 0 7 = true ∨ r_2 = 0 ∧ gx_b hv 0 7 = false := pc_1
  clear pc_1
  rcases oc_1 with ⟨rfl, c_1⟩ | ⟨rfl, c_1⟩
  · refine lv_if_ne (tgt := 14) hx hb dX6_one_4 (by decide) (fun c_3 => ?_) (fun c_3 => absurd c_3 (by decide))
    refine lv_aload_n hx hb dX6_one_14 rfl (lv_at hl 0 rfl) ?_
    refine va_get (D := D) (ci := 4) (v := .ref (ad 1)) (C := RX6) (T := TX6) (N := 10) hx hb hT iw_TX6 hown hK.1 hP 0 rfl rfl 0 (by decide) (hT _ wd_271) (fun _ h9 => h9) rfl dX6_one_15 ?_
    refine va_get (D := D) (ci := 0) (v := .int 0) (C := RX1) (T := TX1) (N := 17) hx hb hT iw_TX1 hown hK.1 hP 1 rfl rfl 10 (by decide) (hT _ wd_138) (fun _ h9 => h9) rfl dX6_one_18 ?_
    refine lv_bipush (v := 6) hx hb dX6_one_21 (by decide) ?_
    refine lv_icmp_ne (tgt := 35) hx hb dX6_one_23 (by decide) (fun c_4 => ?_) (fun c_4 => absurd c_4 (by decide))
    refine lv_aload_n hx hb dX6_one_35 rfl (lv_at hl 0 rfl) ?_
    refine va_get (D := D) (ci := 4) (v := .ref (ad 1)) (C := RX6) (T := TX6) (N := 10) hx hb hT iw_TX6 hown hK.1 hP 0 rfl rfl 0 (by decide) (hT _ wd_271) (fun _ h9 => h9) rfl dX6_one_36 ?_
    refine lv_iload_n hx hb dX6_one_39 rfl (lv_at hl 1 rfl) ?_
    refine gx_ei (wc := ([((ad 1), .inr (0, [.ref (ad 10), .ref (ad 11), .ref (ad 12), .ref (ad 13), .ref (ad 14), .ref (ad 15), .ref (ad 16), .ref (ad 17), .ref (ad 18), .int 0, .int 0, .int 0, .int 0, .int 1, .int 0, .int 0, .int 0])), ((ad 14), .inl (k 0, 6, .inl (fun _ => 0))), ((ad 15), .inl (k 0, 6, .inl (fun _ => 0))), ((ad 16), .inl (k 0, 6, .inl (fun _ => 0)))] : va_W)) (wr := [((ad 0), .inr (4, [.ref (ad 1), .ref (ad 2), .ref (ad 3), .ref (ad 4), .ref (ad 5), .ref (ad 6), .ref (ad 7), .ref (ad 8), .ref (ad 9), .int 0])), ((ad 9), .inl (k 0, 5, .inl (fun _ => 0)))]) (isC := [1, 3, 4, 5]) (isR := [0, 2]) hP hD hS hA rfl rfl (by decide) (by decide) (gx_runV (na := 1) (As := [.int hv]) (rest := []) (ci := 0) C hl.1 hK (gx_subP (wc := ([((ad 1), .inr (0, [.ref (ad 10), .ref (ad 11), .ref (ad 12), .ref (ad 13), .ref (ad 14), .ref (ad 15), .ref (ad 16), .ref (ad 17), .ref (ad 18), .int 0, .int 0, .int 0, .int 0, .int 1, .int 0, .int 0, .int 0])), ((ad 14), .inl (k 0, 6, .inl (fun _ => 0))), ((ad 15), .inl (k 0, 6, .inl (fun _ => 0))), ((ad 16), .inl (k 0, 6, .inl (fun _ => 0)))] : va_W)) hP [1, 3, 4, 5] rfl) ((hD.sub (ws' := ([((ad 1), .inr (0, [.ref (ad 10), .ref (ad 11), .ref (ad 12), .ref (ad 13), .ref (ad 14), .ref (ad 15), .ref (ad 16), .ref (ad 17), .ref (ad 18), .int 0, .int 0, .int 0, .int 0, .int 1, .int 0, .int 0, .int 0])), ((ad 14), .inl (k 0, 6, .inl (fun _ => 0))), ((ad 15), .inl (k 0, 6, .inl (fun _ => 0))), ((ad 16), .inl (k 0, 6, .inl (fun _ => 0)))] : va_W)) [1, 3, 4, 5] (by decide) rfl).weaken (fun _ _ _ _ => trivial)) (k_settle l D k (ad 1) (ad 10) (ad 11) (ad 12) (ad 13) (ad 14) (ad 15) (ad 16) (ad 17) (ad 18) hv _) gV_RX6_140 (by decide +kernel) rfl rfl ⟨Nat.le_of_ble_eq_true rfl, Nat.le_of_ble_eq_true rfl⟩ rfl rfl rfl rfl (Nat.le_of_ble_eq_true rfl) dX6_one_40 ⟨Nat.le_of_ble_eq_true rfl, Nat.le_of_ble_eq_true rfl⟩) (fun r_7 u_5 H locs h_6 hP hD hS => ?_)
    have h_6 : r_7 = 0 := h_6
    have hP : va_P D gx_cl [((ad 0), .inr (4, [.ref (ad 1), .ref (ad 2), .ref (ad 3), .ref (ad 4), .ref (ad 5), .ref (ad 6), .ref (ad 7), .ref (ad 8), .ref (ad 9), .int 0])), ((ad 9), .inl (k 0, 5, .inl (fun _ => 0)))] H := hP
    have hD : va_D A [((ad 0), .inr (4, [.ref (ad 1), .ref (ad 2), .ref (ad 3), .ref (ad 4), .ref (ad 5), .ref (ad 6), .ref (ad 7), .ref (ad 8), .ref (ad 9), .int 0])), ((ad 9), .inl (k 0, 5, .inl (fun _ => 0)))] := hD
    have eh_6 := h_6
    subst eh_6
    exact gx_retI C (u := ()) gx_nil gx_noneD hS (by simp [gs_one, c_1]) dX6_one_43
  · refine lv_if_ne (tgt := 14) hx hb dX6_one_4 (by decide) (fun c_9 => absurd (by decide) c_9) (fun c_9 => ?_)
    refine lv_aload_n hx hb dX6_one_7 rfl (lv_at hl 0 rfl) ?_
    refine lv_bipush (v := (-2)) hx hb dX6_one_8 (by decide) ?_
    refine gx_ei (wc := ([((ad 0), .inr (4, [.ref (ad 1), .ref (ad 2), .ref (ad 3), .ref (ad 4), .ref (ad 5), .ref (ad 6), .ref (ad 7), .ref (ad 8), .ref (ad 9), .int 0])), ((ad 9), .inl (k 0, 5, .inl (fun _ => 0)))] : va_W)) (wr := [((ad 1), .inr (0, [.ref (ad 10), .ref (ad 11), .ref (ad 12), .ref (ad 13), .ref (ad 14), .ref (ad 15), .ref (ad 16), .ref (ad 17), .ref (ad 18), .int 0, .int 0, .int 0, .int 0, .int 1, .int 0, .int 0, .int 0])), ((ad 14), .inl (k 0, 6, .inl (fun _ => 0))), ((ad 15), .inl (k 0, 6, .inl (fun _ => 0))), ((ad 16), .inl (k 0, 6, .inl (fun _ => 0)))]) (isC := [0, 2]) (isR := [1, 3, 4, 5]) hP hD hS hA rfl rfl (by decide) (by decide) (gx_runV (na := 1) (As := [.int (-2)]) (rest := []) (ci := 4) C hl.1 hK (gx_subP (wc := ([((ad 0), .inr (4, [.ref (ad 1), .ref (ad 2), .ref (ad 3), .ref (ad 4), .ref (ad 5), .ref (ad 6), .ref (ad 7), .ref (ad 8), .ref (ad 9), .int 0])), ((ad 9), .inl (k 0, 5, .inl (fun _ => 0)))] : va_W)) hP [0, 2] rfl) ((hD.sub (ws' := ([((ad 0), .inr (4, [.ref (ad 1), .ref (ad 2), .ref (ad 3), .ref (ad 4), .ref (ad 5), .ref (ad 6), .ref (ad 7), .ref (ad 8), .ref (ad 9), .int 0])), ((ad 9), .inl (k 0, 5, .inl (fun _ => 0)))] : va_W)) [0, 2] (by decide) rfl).weaken (fun _ _ _ _ => trivial)) (k_refuse2 l D k ad _) gV_RX6_61 (by decide +kernel) rfl rfl ⟨Nat.le_of_ble_eq_true rfl, Nat.le_of_ble_eq_true rfl⟩ rfl rfl rfl rfl (Nat.le_of_ble_eq_true rfl) dX6_one_10 ⟨Nat.le_of_ble_eq_true rfl, Nat.le_of_ble_eq_true rfl⟩) (fun r_12 u_10 H locs h_11 hP hD hS => ?_)
    have h_11 : r_12 = -2 := h_11
    have hP : va_P D gx_cl [((ad 1), .inr (0, [.ref (ad 10), .ref (ad 11), .ref (ad 12), .ref (ad 13), .ref (ad 14), .ref (ad 15), .ref (ad 16), .ref (ad 17), .ref (ad 18), .int 0, .int 0, .int 0, .int 0, .int 1, .int 0, .int 0, .int 0])), ((ad 14), .inl (k 0, 6, .inl (fun _ => 0))), ((ad 15), .inl (k 0, 6, .inl (fun _ => 0))), ((ad 16), .inl (k 0, 6, .inl (fun _ => 0)))] H := hP
    have hD : va_D A [((ad 1), .inr (0, [.ref (ad 10), .ref (ad 11), .ref (ad 12), .ref (ad 13), .ref (ad 14), .ref (ad 15), .ref (ad 16), .ref (ad 17), .ref (ad 18), .int 0, .int 0, .int 0, .int 0, .int 1, .int 0, .int 0, .int 0])), ((ad 14), .inl (k 0, 6, .inl (fun _ => 0))), ((ad 15), .inl (k 0, 6, .inl (fun _ => 0))), ((ad 16), .inl (k 0, 6, .inl (fun _ => 0)))] := hD
    have eh_11 := h_11
    subst eh_11
    exact gx_retI C (u := ()) gx_nil gx_noneD hS (by simp [gs_one, c_1]) dX6_one_13
set_option maxHeartbeats 4000000 in
set_option maxRecDepth 100000 in
theorem x_shut (l : Launch) (D : va_G) (k : Nat → ClassId) (ad : Nat → Nat) (rv : Int32) (zv : Int32) (sz : Nat) : Met l yX6_shut (.code yX6_shut cX6_shut 3 (some .int) :: gx_T) ({ frames := 2, cells := 0, slots := 0, locals := 43 }) (gx_Pre D k [.ref (ad 0), .int rv, .int zv] ([((ad 0), .inr (4, [.ref (ad 1), .ref (ad 2), .ref (ad 3), .ref (ad 4), .ref (ad 5), .ref (ad 6), .ref (ad 7), .ref (ad 8), .ref (ad 9), .int 0])), ((ad 1), .inr (0, [.ref (ad 10), .ref (ad 11), .ref (ad 12), .ref (ad 13), .ref (ad 14), .ref (ad 15), .ref (ad 16), .ref (ad 17), .ref (ad 18), .int 0, .int 0, .int 0, .int 0, .int 1, .int 0, .int 0, .int 0])), ((ad 9), .inl (k 0, 5, .inl (fun _ => 0)))]) sz) (gx_Qi D (fun (r : Int32) (u : Unit) => r = -2) (fun (u : Unit) => ([] : va_W)) (va_A ([((ad 0), .inr (4, [.ref (ad 1), .ref (ad 2), .ref (ad 3), .ref (ad 4), .ref (ad 5), .ref (ad 6), .ref (ad 7), .ref (ad 8), .ref (ad 9), .int 0])), ((ad 1), .inr (0, [.ref (ad 10), .ref (ad 11), .ref (ad 12), .ref (ad 13), .ref (ad 14), .ref (ad 15), .ref (ad 16), .ref (ad 17), .ref (ad 18), .int 0, .int 0, .int 0, .int 0, .int 1, .int 0, .int 0, .int 0])), ((ad 9), .inl (k 0, 5, .inl (fun _ => 0)))]) sz)) 0 0 (va_A ([((ad 0), .inr (4, [.ref (ad 1), .ref (ad 2), .ref (ad 3), .ref (ad 4), .ref (ad 5), .ref (ad 6), .ref (ad 7), .ref (ad 8), .ref (ad 9), .int 0])), ((ad 1), .inr (0, [.ref (ad 10), .ref (ad 11), .ref (ad 12), .ref (ad 13), .ref (ad 14), .ref (ad 15), .ref (ad 16), .ref (ad 17), .ref (ad 18), .int 0, .int 0, .int 0, .int 0, .int 1, .int 0, .int 0, .int 0])), ((ad 9), .inl (k 0, 5, .inl (fun _ => 0)))]) sz) := by
  refine gx_metE (Qc := fun A => gx_Qi D (fun (r : Int32) (u : Unit) => r = -2) (fun (u : Unit) => ([] : va_W)) A) (y := yX6_shut) (cc := cX6_shut) (n := 3) (ret := (some .int)) (av := [.ref (ad 0), .int rv, .int zv]) (by decide) (Nat.le_of_ble_eq_true rfl) ?_
  intro p e s m below meth c A ls C hA hP hD hK hS hl
  obtain ⟨hx, hb, hr, hml, hown, hT, hlk, hin⟩ := id C
  have hown : s.vm.findClass RX6 = some m.cls := hown
  have hl : lv_has ls 3 [(0, .ref (ad 0)), (1, .int rv), (2, .int zv)] := hl
  refine lv_aload_n hx hb dX6_shut_0 rfl (lv_at hl 0 rfl) ?_
  refine lv_iload_n hx hb dX6_shut_1 rfl (lv_at hl 1 rfl) ?_
  refine gx_pi hP hS (gx_runV (na := 1) (As := [.int rv]) (rest := []) (ci := 4) C hl.1 hK (gx_subP (wc := ([((ad 0), .inr (4, [.ref (ad 1), .ref (ad 2), .ref (ad 3), .ref (ad 4), .ref (ad 5), .ref (ad 6), .ref (ad 7), .ref (ad 8), .ref (ad 9), .int 0])), ((ad 1), .inr (0, [.ref (ad 10), .ref (ad 11), .ref (ad 12), .ref (ad 13), .ref (ad 14), .ref (ad 15), .ref (ad 16), .ref (ad 17), .ref (ad 18), .int 0, .int 0, .int 0, .int 0, .int 1, .int 0, .int 0, .int 0]))] : va_W)) hP [0, 1] rfl) ((hD.sub (ws' := ([((ad 0), .inr (4, [.ref (ad 1), .ref (ad 2), .ref (ad 3), .ref (ad 4), .ref (ad 5), .ref (ad 6), .ref (ad 7), .ref (ad 8), .ref (ad 9), .int 0])), ((ad 1), .inr (0, [.ref (ad 10), .ref (ad 11), .ref (ad 12), .ref (ad 13), .ref (ad 14), .ref (ad 15), .ref (ad 16), .ref (ad 17), .ref (ad 18), .int 0, .int 0, .int 0, .int 0, .int 1, .int 0, .int 0, .int 0]))] : va_W)) [0, 1] (by decide) rfl).weaken (fun _ _ _ _ => trivial)) (k_isRoad l D k ad rv _) gV_RX6_143 (by decide +kernel) rfl rfl ⟨Nat.le_of_ble_eq_true rfl, Nat.le_of_ble_eq_true rfl⟩ rfl rfl rfl rfl (Nat.le_of_ble_eq_true rfl) dX6_shut_2 ⟨Nat.le_of_ble_eq_true rfl, Nat.le_of_ble_eq_true rfl⟩) (fun r_2 H locs c_1 hP hS => ?_)
  have c_1 : r_2 = 0 := c_1
  subst c_1
  refine lv_if_ne (tgt := 15) hx hb dX6_shut_5 (by decide) (fun c_3 => absurd (by decide) c_3) (fun c_3 => ?_)
  refine lv_aload_n hx hb dX6_shut_8 rfl (lv_at hl 0 rfl) ?_
  refine lv_bipush (v := (-2)) hx hb dX6_shut_9 (by decide) ?_
  refine gx_ei (wc := ([((ad 0), .inr (4, [.ref (ad 1), .ref (ad 2), .ref (ad 3), .ref (ad 4), .ref (ad 5), .ref (ad 6), .ref (ad 7), .ref (ad 8), .ref (ad 9), .int 0])), ((ad 9), .inl (k 0, 5, .inl (fun _ => 0)))] : va_W)) (wr := [((ad 1), .inr (0, [.ref (ad 10), .ref (ad 11), .ref (ad 12), .ref (ad 13), .ref (ad 14), .ref (ad 15), .ref (ad 16), .ref (ad 17), .ref (ad 18), .int 0, .int 0, .int 0, .int 0, .int 1, .int 0, .int 0, .int 0]))]) (isC := [0, 2]) (isR := [1]) hP hD hS hA rfl rfl (by decide) (by decide) (gx_runV (na := 1) (As := [.int (-2)]) (rest := []) (ci := 4) C hl.1 hK (gx_subP (wc := ([((ad 0), .inr (4, [.ref (ad 1), .ref (ad 2), .ref (ad 3), .ref (ad 4), .ref (ad 5), .ref (ad 6), .ref (ad 7), .ref (ad 8), .ref (ad 9), .int 0])), ((ad 9), .inl (k 0, 5, .inl (fun _ => 0)))] : va_W)) hP [0, 2] rfl) ((hD.sub (ws' := ([((ad 0), .inr (4, [.ref (ad 1), .ref (ad 2), .ref (ad 3), .ref (ad 4), .ref (ad 5), .ref (ad 6), .ref (ad 7), .ref (ad 8), .ref (ad 9), .int 0])), ((ad 9), .inl (k 0, 5, .inl (fun _ => 0)))] : va_W)) [0, 2] (by decide) rfl).weaken (fun _ _ _ _ => trivial)) (k_refuse2 l D k ad _) gV_RX6_61 (by decide +kernel) rfl rfl ⟨Nat.le_of_ble_eq_true rfl, Nat.le_of_ble_eq_true rfl⟩ rfl rfl rfl rfl (Nat.le_of_ble_eq_true rfl) dX6_shut_11 ⟨Nat.le_of_ble_eq_true rfl, Nat.le_of_ble_eq_true rfl⟩) (fun r_6 u_4 H locs h_5 hP hD hS => ?_)
  have h_5 : r_6 = -2 := h_5
  have hP : va_P D gx_cl [((ad 1), .inr (0, [.ref (ad 10), .ref (ad 11), .ref (ad 12), .ref (ad 13), .ref (ad 14), .ref (ad 15), .ref (ad 16), .ref (ad 17), .ref (ad 18), .int 0, .int 0, .int 0, .int 0, .int 1, .int 0, .int 0, .int 0]))] H := hP
  have hD : va_D A [((ad 1), .inr (0, [.ref (ad 10), .ref (ad 11), .ref (ad 12), .ref (ad 13), .ref (ad 14), .ref (ad 15), .ref (ad 16), .ref (ad 17), .ref (ad 18), .int 0, .int 0, .int 0, .int 0, .int 1, .int 0, .int 0, .int 0]))] := hD
  have eh_5 := h_5
  subst eh_5
  exact gx_retI C (u := ()) gx_nil gx_noneD hS (rfl) dX6_shut_14
set_option maxHeartbeats 4000000 in
set_option maxRecDepth 100000 in
theorem x_anew (l : Launch) (D : va_G) (k : Nat → ClassId) (ad : Nat → Nat) (nv : Int32) (sz : Nat) : Met l yX6_anew (.code yX6_anew cX6_anew 3 (some .int) :: gx_T) ({ frames := 2, cells := 0, slots := 0, locals := 43 }) (gx_Pre D k [.ref (ad 0), .int nv] ([((ad 0), .inr (4, [.ref (ad 1), .ref (ad 2), .ref (ad 3), .ref (ad 4), .ref (ad 5), .ref (ad 6), .ref (ad 7), .ref (ad 8), .ref (ad 9), .int 0])), ((ad 1), .inr (0, [.ref (ad 10), .ref (ad 11), .ref (ad 12), .ref (ad 13), .ref (ad 14), .ref (ad 15), .ref (ad 16), .ref (ad 17), .ref (ad 18), .int 0, .int 0, .int 0, .int 0, .int 1, .int 0, .int 0, .int 0])), ((ad 9), .inl (k 0, 5, .inl (fun _ => 0)))]) sz) (gx_Qi D (fun (r : Int32) (u : Unit) => r = (gs_anew nv)) (fun (u : Unit) => ([] : va_W)) (va_A ([((ad 0), .inr (4, [.ref (ad 1), .ref (ad 2), .ref (ad 3), .ref (ad 4), .ref (ad 5), .ref (ad 6), .ref (ad 7), .ref (ad 8), .ref (ad 9), .int 0])), ((ad 1), .inr (0, [.ref (ad 10), .ref (ad 11), .ref (ad 12), .ref (ad 13), .ref (ad 14), .ref (ad 15), .ref (ad 16), .ref (ad 17), .ref (ad 18), .int 0, .int 0, .int 0, .int 0, .int 1, .int 0, .int 0, .int 0])), ((ad 9), .inl (k 0, 5, .inl (fun _ => 0)))]) sz)) 0 0 (va_A ([((ad 0), .inr (4, [.ref (ad 1), .ref (ad 2), .ref (ad 3), .ref (ad 4), .ref (ad 5), .ref (ad 6), .ref (ad 7), .ref (ad 8), .ref (ad 9), .int 0])), ((ad 1), .inr (0, [.ref (ad 10), .ref (ad 11), .ref (ad 12), .ref (ad 13), .ref (ad 14), .ref (ad 15), .ref (ad 16), .ref (ad 17), .ref (ad 18), .int 0, .int 0, .int 0, .int 0, .int 1, .int 0, .int 0, .int 0])), ((ad 9), .inl (k 0, 5, .inl (fun _ => 0)))]) sz) := by
  refine gx_metE (Qc := fun A => gx_Qi D (fun (r : Int32) (u : Unit) => r = (gs_anew nv)) (fun (u : Unit) => ([] : va_W)) A) (y := yX6_anew) (cc := cX6_anew) (n := 3) (ret := (some .int)) (av := [.ref (ad 0), .int nv]) (by decide) (Nat.le_of_ble_eq_true rfl) ?_
  intro p e s m below meth c A ls C hA hP hD hK hS hl
  obtain ⟨hx, hb, hr, hml, hown, hT, hlk, hin⟩ := id C
  have hown : s.vm.findClass RX6 = some m.cls := hown
  have hl : lv_has ls 3 [(0, .ref (ad 0)), (1, .int nv)] := hl
  refine lv_iload_n hx hb dX6_anew_0 rfl (lv_at hl 1 rfl) ?_
  refine lv_iconst (v := 0) hx hb dX6_anew_1 (by decide) ?_
  refine lv_bipush (v := 99) hx hb dX6_anew_2 (by decide) ?_
  refine gx_pi hP hS (gx_runS (na := 3) (As := [.int nv, .int 0, .int 99]) (rest := []) C hl.1 hK (gx_subP (wc := ([] : va_W)) hP [] rfl) ((hD.sub (ws' := ([] : va_W)) [] (by decide) rfl).weaken (fun _ _ _ _ => trivial)) (k_isBetween l D k nv 0 99 _) gS_RX6_57 (by decide +kernel) rfl rfl ⟨Nat.le_of_ble_eq_true rfl, Nat.le_of_ble_eq_true rfl⟩ rfl rfl (Nat.le_of_ble_eq_true rfl) dX6_anew_4 ⟨Nat.le_of_ble_eq_true rfl, Nat.le_of_ble_eq_true rfl⟩) (fun r_2 H locs pc_1 hP hS => ?_)
  have oc_1 : r_2 = 1 ∧ gx_b nv 0 99 = true ∨ r_2 = 0 ∧ gx_b nv 0 99 = false := pc_1
  clear pc_1
  rcases oc_1 with ⟨rfl, c_1⟩ | ⟨rfl, c_1⟩
  · refine lv_if_ne (tgt := 17) hx hb dX6_anew_7 (by decide) (fun c_3 => ?_) (fun c_3 => absurd c_3 (by decide))
    refine lv_aload_n hx hb dX6_anew_17 rfl (lv_at hl 0 rfl) ?_
    refine va_get (D := D) (ci := 4) (v := .ref (ad 1)) (C := RX6) (T := TX6) (N := 10) hx hb hT iw_TX6 hown hK.1 hP 0 rfl rfl 0 (by decide) (hT _ wd_271) (fun _ h9 => h9) rfl dX6_anew_18 ?_
    refine va_get (D := D) (ci := 0) (v := .int 0) (C := RX1) (T := TX1) (N := 17) hx hb hT iw_TX1 hown hK.1 hP 1 rfl rfl 12 (by decide) (hT _ wd_143) (fun _ h9 => h9) rfl dX6_anew_21 ?_
    refine lv_istore_n (lv' := [(2, .int 0), (0, .ref (ad 0)), (1, .int nv)]) hx hb dX6_anew_24 rfl hl (by decide) rfl (fun ls hl => ?_)
    refine lv_aload_n hx hb dX6_anew_25 rfl (lv_at hl 1 rfl) ?_
    refine va_get (D := D) (ci := 4) (v := .ref (ad 1)) (C := RX6) (T := TX6) (N := 10) hx hb hT iw_TX6 hown hK.1 hP 0 rfl rfl 0 (by decide) (hT _ wd_271) (fun _ h9 => h9) rfl dX6_anew_26 ?_
    refine lv_iload_n hx hb dX6_anew_29 rfl (lv_at hl 2 rfl) ?_
    refine va_put (D := D) (ci := 0) (v := .int nv) (ty := .int) (C := RX1) (T := TX1) (N := 17) hx hb hT iw_TX1 tyX1 tyX1_ok nmX1 hown hK.1 hP hD hS 1 rfl rfl 12 (by decide) (hT _ wd_143) (fun _ h9 => h9) rfl (by decide +kernel) rfl rfl (Nat.le_of_ble_eq_true rfl) dX6_anew_30 (fun H locs hP hD hS => ?_)
    have hP : va_P D gx_cl [((ad 0), .inr (4, [.ref (ad 1), .ref (ad 2), .ref (ad 3), .ref (ad 4), .ref (ad 5), .ref (ad 6), .ref (ad 7), .ref (ad 8), .ref (ad 9), .int 0])), ((ad 1), .inr (0, [.ref (ad 10), .ref (ad 11), .ref (ad 12), .ref (ad 13), .ref (ad 14), .ref (ad 15), .ref (ad 16), .ref (ad 17), .ref (ad 18), .int 0, .int 0, .int 0, .int nv, .int 1, .int 0, .int 0, .int 0])), ((ad 9), .inl (k 0, 5, .inl (fun _ => 0)))] H := hP
    have hD : va_D A [((ad 0), .inr (4, [.ref (ad 1), .ref (ad 2), .ref (ad 3), .ref (ad 4), .ref (ad 5), .ref (ad 6), .ref (ad 7), .ref (ad 8), .ref (ad 9), .int 0])), ((ad 1), .inr (0, [.ref (ad 10), .ref (ad 11), .ref (ad 12), .ref (ad 13), .ref (ad 14), .ref (ad 15), .ref (ad 16), .ref (ad 17), .ref (ad 18), .int 0, .int 0, .int 0, .int nv, .int 1, .int 0, .int 0, .int 0])), ((ad 9), .inl (k 0, 5, .inl (fun _ => 0)))] := hD
    refine lv_iload_n hx hb dX6_anew_33 rfl (lv_at hl 0 rfl) ?_
    exact gx_retI C (u := ()) gx_nil gx_noneD hS (by simp [gs_anew, c_1]) dX6_anew_34
  · refine lv_if_ne (tgt := 17) hx hb dX6_anew_7 (by decide) (fun c_4 => absurd (by decide) c_4) (fun c_4 => ?_)
    refine lv_aload_n hx hb dX6_anew_10 rfl (lv_at hl 0 rfl) ?_
    refine lv_bipush (v := (-2)) hx hb dX6_anew_11 (by decide) ?_
    refine gx_ei (wc := ([((ad 0), .inr (4, [.ref (ad 1), .ref (ad 2), .ref (ad 3), .ref (ad 4), .ref (ad 5), .ref (ad 6), .ref (ad 7), .ref (ad 8), .ref (ad 9), .int 0])), ((ad 9), .inl (k 0, 5, .inl (fun _ => 0)))] : va_W)) (wr := [((ad 1), .inr (0, [.ref (ad 10), .ref (ad 11), .ref (ad 12), .ref (ad 13), .ref (ad 14), .ref (ad 15), .ref (ad 16), .ref (ad 17), .ref (ad 18), .int 0, .int 0, .int 0, .int 0, .int 1, .int 0, .int 0, .int 0]))]) (isC := [0, 2]) (isR := [1]) hP hD hS hA rfl rfl (by decide) (by decide) (gx_runV (na := 1) (As := [.int (-2)]) (rest := []) (ci := 4) C hl.1 hK (gx_subP (wc := ([((ad 0), .inr (4, [.ref (ad 1), .ref (ad 2), .ref (ad 3), .ref (ad 4), .ref (ad 5), .ref (ad 6), .ref (ad 7), .ref (ad 8), .ref (ad 9), .int 0])), ((ad 9), .inl (k 0, 5, .inl (fun _ => 0)))] : va_W)) hP [0, 2] rfl) ((hD.sub (ws' := ([((ad 0), .inr (4, [.ref (ad 1), .ref (ad 2), .ref (ad 3), .ref (ad 4), .ref (ad 5), .ref (ad 6), .ref (ad 7), .ref (ad 8), .ref (ad 9), .int 0])), ((ad 9), .inl (k 0, 5, .inl (fun _ => 0)))] : va_W)) [0, 2] (by decide) rfl).weaken (fun _ _ _ _ => trivial)) (k_refuse2 l D k ad _) gV_RX6_61 (by decide +kernel) rfl rfl ⟨Nat.le_of_ble_eq_true rfl, Nat.le_of_ble_eq_true rfl⟩ rfl rfl rfl rfl (Nat.le_of_ble_eq_true rfl) dX6_anew_13 ⟨Nat.le_of_ble_eq_true rfl, Nat.le_of_ble_eq_true rfl⟩) (fun r_7 u_5 H locs h_6 hP hD hS => ?_)
    have h_6 : r_7 = -2 := h_6
    have hP : va_P D gx_cl [((ad 1), .inr (0, [.ref (ad 10), .ref (ad 11), .ref (ad 12), .ref (ad 13), .ref (ad 14), .ref (ad 15), .ref (ad 16), .ref (ad 17), .ref (ad 18), .int 0, .int 0, .int 0, .int 0, .int 1, .int 0, .int 0, .int 0]))] H := hP
    have hD : va_D A [((ad 1), .inr (0, [.ref (ad 10), .ref (ad 11), .ref (ad 12), .ref (ad 13), .ref (ad 14), .ref (ad 15), .ref (ad 16), .ref (ad 17), .ref (ad 18), .int 0, .int 0, .int 0, .int 0, .int 1, .int 0, .int 0, .int 0]))] := hD
    have eh_6 := h_6
    subst eh_6
    exact gx_retI C (u := ()) gx_nil gx_noneD hS (by simp [gs_anew, c_1]) dX6_anew_16
set_option maxHeartbeats 4000000 in
set_option maxRecDepth 100000 in
theorem x_feed (l : Launch) (D : va_G) (k : Nat → ClassId) (ad : Nat → Nat) (vv : Int32) (nv : Int32) (sz : Nat) : Met l yX6_feed (.code yX6_feed cX6_feed 3 (some .int) :: gx_T) ({ frames := 2, cells := 0, slots := 0, locals := 43 }) (gx_Pre D k [.ref (ad 0), .int vv, .int nv] ([((ad 0), .inr (4, [.ref (ad 1), .ref (ad 2), .ref (ad 3), .ref (ad 4), .ref (ad 5), .ref (ad 6), .ref (ad 7), .ref (ad 8), .ref (ad 9), .int 0])), ((ad 9), .inl (k 0, 5, .inl (fun _ => 0))), ((ad 4), .inr (2, [.ref (ad 40), .int 0, .int (-1), .int 0, .int 0, .int 0])), ((ad 40), .inl (k 0, 250, .inl (fun _ => 0)))]) sz) (gx_Qi D (fun (r : Int32) (u : Unit) => r = (gs_feed nv)) (fun (u : Unit) => ([] : va_W)) (va_A ([((ad 0), .inr (4, [.ref (ad 1), .ref (ad 2), .ref (ad 3), .ref (ad 4), .ref (ad 5), .ref (ad 6), .ref (ad 7), .ref (ad 8), .ref (ad 9), .int 0])), ((ad 9), .inl (k 0, 5, .inl (fun _ => 0))), ((ad 4), .inr (2, [.ref (ad 40), .int 0, .int (-1), .int 0, .int 0, .int 0])), ((ad 40), .inl (k 0, 250, .inl (fun _ => 0)))]) sz)) 0 0 (va_A ([((ad 0), .inr (4, [.ref (ad 1), .ref (ad 2), .ref (ad 3), .ref (ad 4), .ref (ad 5), .ref (ad 6), .ref (ad 7), .ref (ad 8), .ref (ad 9), .int 0])), ((ad 9), .inl (k 0, 5, .inl (fun _ => 0))), ((ad 4), .inr (2, [.ref (ad 40), .int 0, .int (-1), .int 0, .int 0, .int 0])), ((ad 40), .inl (k 0, 250, .inl (fun _ => 0)))]) sz) := by
  refine gx_metE (Qc := fun A => gx_Qi D (fun (r : Int32) (u : Unit) => r = (gs_feed nv)) (fun (u : Unit) => ([] : va_W)) A) (y := yX6_feed) (cc := cX6_feed) (n := 3) (ret := (some .int)) (av := [.ref (ad 0), .int vv, .int nv]) (by decide) (Nat.le_of_ble_eq_true rfl) ?_
  intro p e s m below meth c A ls C hA hP hD hK hS hl
  obtain ⟨hx, hb, hr, hml, hown, hT, hlk, hin⟩ := id C
  have hown : s.vm.findClass RX6 = some m.cls := hown
  have hl : lv_has ls 3 [(0, .ref (ad 0)), (1, .int vv), (2, .int nv)] := hl
  refine lv_iload_n hx hb dX6_feed_0 rfl (lv_at hl 2 rfl) ?_
  refine lv_iconst (v := 1) hx hb dX6_feed_1 (by decide) ?_
  refine lv_iconst (v := 4) hx hb dX6_feed_2 (by decide) ?_
  refine gx_pi hP hS (gx_runS (na := 3) (As := [.int nv, .int 1, .int 4]) (rest := []) C hl.1 hK (gx_subP (wc := ([] : va_W)) hP [] rfl) ((hD.sub (ws' := ([] : va_W)) [] (by decide) rfl).weaken (fun _ _ _ _ => trivial)) (k_isBetween l D k nv 1 4 _) gS_RX6_57 (by decide +kernel) rfl rfl ⟨Nat.le_of_ble_eq_true rfl, Nat.le_of_ble_eq_true rfl⟩ rfl rfl (Nat.le_of_ble_eq_true rfl) dX6_feed_3 ⟨Nat.le_of_ble_eq_true rfl, Nat.le_of_ble_eq_true rfl⟩) (fun r_2 H locs pc_1 hP hS => ?_)
  have oc_1 : r_2 = 1 ∧ gx_b nv 1 4 = true ∨ r_2 = 0 ∧ gx_b nv 1 4 = false := pc_1
  clear pc_1
  rcases oc_1 with ⟨rfl, c_1⟩ | ⟨rfl, c_1⟩
  · rcases gx_4 c_1 with rfl | rfl | rfl | rfl
    · refine lv_if_ne (tgt := 16) hx hb dX6_feed_6 (by decide) (fun c_3 => ?_) (fun c_3 => absurd c_3 (by decide))
      refine lv_aload_n hx hb dX6_feed_16 rfl (lv_at hl 0 rfl) ?_
      refine va_get (D := D) (ci := 4) (v := .ref (ad 4)) (C := RX6) (T := TX6) (N := 10) hx hb hT iw_TX6 hown hK.1 hP 0 rfl rfl 3 (by decide) (hT _ wd_274) (fun _ h9 => h9) rfl dX6_feed_17 ?_
      refine va_get (D := D) (ci := 2) (v := .int 0) (C := RX4) (T := TX4) (N := 6) hx hb hT iw_TX4 hown hK.1 hP 2 rfl rfl 1 (by decide) (hT _ wd_197) (fun _ h9 => h9) rfl dX6_feed_20 ?_
      refine lv_iload_n hx hb dX6_feed_23 rfl (lv_at hl 2 rfl) ?_
      refine lv_iadd hx hb dX6_feed_24 ?_
      refine gx_cst (v := 1) (by decide) ?_
      refine lv_sipush (v := 250) hx hb dX6_feed_25 (by decide) ?_
      refine lv_icmp_le (tgt := 38) hx hb dX6_feed_28 (by decide) (fun c_4 => ?_) (fun c_4 => absurd (by decide) c_4)
      refine lv_aload_n hx hb dX6_feed_38 rfl (lv_at hl 0 rfl) ?_
      refine va_get (D := D) (ci := 4) (v := .ref (ad 4)) (C := RX6) (T := TX6) (N := 10) hx hb hT iw_TX6 hown hK.1 hP 0 rfl rfl 3 (by decide) (hT _ wd_274) (fun _ h9 => h9) rfl dX6_feed_39 ?_
      refine lv_iload_n hx hb dX6_feed_42 rfl (lv_at hl 1 rfl) ?_
      refine lv_iload_n hx hb dX6_feed_43 rfl (lv_at hl 2 rfl) ?_
      refine gx_ev (wc := ([((ad 4), .inr (2, [.ref (ad 40), .int 0, .int (-1), .int 0, .int 0, .int 0])), ((ad 40), .inl (k 0, 250, .inl (fun _ => 0)))] : va_W)) (wr := [((ad 0), .inr (4, [.ref (ad 1), .ref (ad 2), .ref (ad 3), .ref (ad 4), .ref (ad 5), .ref (ad 6), .ref (ad 7), .ref (ad 8), .ref (ad 9), .int 0])), ((ad 9), .inl (k 0, 5, .inl (fun _ => 0)))]) (isC := [2, 3]) (isR := [0, 1]) hP hD hS hA rfl rfl (by decide) (by decide) (gx_runV (na := 2) (As := [.int vv, .int 1]) (rest := []) (ci := 2) C hl.1 hK (gx_subP (wc := ([((ad 4), .inr (2, [.ref (ad 40), .int 0, .int (-1), .int 0, .int 0, .int 0])), ((ad 40), .inl (k 0, 250, .inl (fun _ => 0)))] : va_W)) hP [2, 3] rfl) ((hD.sub (ws' := ([((ad 4), .inr (2, [.ref (ad 40), .int 0, .int (-1), .int 0, .int 0, .int 0])), ((ad 40), .inl (k 0, 250, .inl (fun _ => 0)))] : va_W)) [2, 3] (by decide) rfl).weaken (fun _ _ _ _ => trivial)) (k_append1 l D k (ad 4) (ad 40) vv _) gV_RX6_156 (by decide +kernel) rfl rfl ⟨Nat.le_of_ble_eq_true rfl, Nat.le_of_ble_eq_true rfl⟩ rfl rfl rfl rfl (Nat.le_of_ble_eq_true rfl) dX6_feed_44 ⟨Nat.le_of_ble_eq_true rfl, Nat.le_of_ble_eq_true rfl⟩) (fun u_5 H locs h_6 hP hD hS => ?_)
      have hP : va_P D gx_cl [((ad 0), .inr (4, [.ref (ad 1), .ref (ad 2), .ref (ad 3), .ref (ad 4), .ref (ad 5), .ref (ad 6), .ref (ad 7), .ref (ad 8), .ref (ad 9), .int 0])), ((ad 9), .inl (k 0, 5, .inl (fun _ => 0))), ((ad 4), .inr (2, [.ref (ad 40), .int 1, .int (-1), .int 0, .int 0, .int 0]))] H := hP
      have hD : va_D A [((ad 0), .inr (4, [.ref (ad 1), .ref (ad 2), .ref (ad 3), .ref (ad 4), .ref (ad 5), .ref (ad 6), .ref (ad 7), .ref (ad 8), .ref (ad 9), .int 0])), ((ad 9), .inl (k 0, 5, .inl (fun _ => 0))), ((ad 4), .inr (2, [.ref (ad 40), .int 1, .int (-1), .int 0, .int 0, .int 0]))] := hD
      refine lv_aload_n hx hb dX6_feed_47 rfl (lv_at hl 0 rfl) ?_
      refine va_get (D := D) (ci := 4) (v := .ref (ad 4)) (C := RX6) (T := TX6) (N := 10) hx hb hT iw_TX6 hown hK.1 hP 0 rfl rfl 3 (by decide) (hT _ wd_274) (fun _ h9 => h9) rfl dX6_feed_48 ?_
      refine va_get (D := D) (ci := 2) (v := .int 1) (C := RX4) (T := TX4) (N := 6) hx hb hT iw_TX4 hown hK.1 hP 2 rfl rfl 1 (by decide) (hT _ wd_197) (fun _ h9 => h9) rfl dX6_feed_51 ?_
      exact gx_retI C (u := ()) gx_nil gx_noneD hS (by decide) dX6_feed_54
    · refine lv_if_ne (tgt := 16) hx hb dX6_feed_6 (by decide) (fun c_9 => ?_) (fun c_9 => absurd c_9 (by decide))
      refine lv_aload_n hx hb dX6_feed_16 rfl (lv_at hl 0 rfl) ?_
      refine va_get (D := D) (ci := 4) (v := .ref (ad 4)) (C := RX6) (T := TX6) (N := 10) hx hb hT iw_TX6 hown hK.1 hP 0 rfl rfl 3 (by decide) (hT _ wd_274) (fun _ h9 => h9) rfl dX6_feed_17 ?_
      refine va_get (D := D) (ci := 2) (v := .int 0) (C := RX4) (T := TX4) (N := 6) hx hb hT iw_TX4 hown hK.1 hP 2 rfl rfl 1 (by decide) (hT _ wd_197) (fun _ h9 => h9) rfl dX6_feed_20 ?_
      refine lv_iload_n hx hb dX6_feed_23 rfl (lv_at hl 2 rfl) ?_
      refine lv_iadd hx hb dX6_feed_24 ?_
      refine gx_cst (v := 2) (by decide) ?_
      refine lv_sipush (v := 250) hx hb dX6_feed_25 (by decide) ?_
      refine lv_icmp_le (tgt := 38) hx hb dX6_feed_28 (by decide) (fun c_10 => ?_) (fun c_10 => absurd (by decide) c_10)
      refine lv_aload_n hx hb dX6_feed_38 rfl (lv_at hl 0 rfl) ?_
      refine va_get (D := D) (ci := 4) (v := .ref (ad 4)) (C := RX6) (T := TX6) (N := 10) hx hb hT iw_TX6 hown hK.1 hP 0 rfl rfl 3 (by decide) (hT _ wd_274) (fun _ h9 => h9) rfl dX6_feed_39 ?_
      refine lv_iload_n hx hb dX6_feed_42 rfl (lv_at hl 1 rfl) ?_
      refine lv_iload_n hx hb dX6_feed_43 rfl (lv_at hl 2 rfl) ?_
      refine gx_ev (wc := ([((ad 4), .inr (2, [.ref (ad 40), .int 0, .int (-1), .int 0, .int 0, .int 0])), ((ad 40), .inl (k 0, 250, .inl (fun _ => 0)))] : va_W)) (wr := [((ad 0), .inr (4, [.ref (ad 1), .ref (ad 2), .ref (ad 3), .ref (ad 4), .ref (ad 5), .ref (ad 6), .ref (ad 7), .ref (ad 8), .ref (ad 9), .int 0])), ((ad 9), .inl (k 0, 5, .inl (fun _ => 0)))]) (isC := [2, 3]) (isR := [0, 1]) hP hD hS hA rfl rfl (by decide) (by decide) (gx_runV (na := 2) (As := [.int vv, .int 2]) (rest := []) (ci := 2) C hl.1 hK (gx_subP (wc := ([((ad 4), .inr (2, [.ref (ad 40), .int 0, .int (-1), .int 0, .int 0, .int 0])), ((ad 40), .inl (k 0, 250, .inl (fun _ => 0)))] : va_W)) hP [2, 3] rfl) ((hD.sub (ws' := ([((ad 4), .inr (2, [.ref (ad 40), .int 0, .int (-1), .int 0, .int 0, .int 0])), ((ad 40), .inl (k 0, 250, .inl (fun _ => 0)))] : va_W)) [2, 3] (by decide) rfl).weaken (fun _ _ _ _ => trivial)) (k_append2 l D k (ad 4) (ad 40) vv _) gV_RX6_156 (by decide +kernel) rfl rfl ⟨Nat.le_of_ble_eq_true rfl, Nat.le_of_ble_eq_true rfl⟩ rfl rfl rfl rfl (Nat.le_of_ble_eq_true rfl) dX6_feed_44 ⟨Nat.le_of_ble_eq_true rfl, Nat.le_of_ble_eq_true rfl⟩) (fun u_11 H locs h_12 hP hD hS => ?_)
      have hP : va_P D gx_cl [((ad 0), .inr (4, [.ref (ad 1), .ref (ad 2), .ref (ad 3), .ref (ad 4), .ref (ad 5), .ref (ad 6), .ref (ad 7), .ref (ad 8), .ref (ad 9), .int 0])), ((ad 9), .inl (k 0, 5, .inl (fun _ => 0))), ((ad 4), .inr (2, [.ref (ad 40), .int 2, .int (-1), .int 0, .int 0, .int 0]))] H := hP
      have hD : va_D A [((ad 0), .inr (4, [.ref (ad 1), .ref (ad 2), .ref (ad 3), .ref (ad 4), .ref (ad 5), .ref (ad 6), .ref (ad 7), .ref (ad 8), .ref (ad 9), .int 0])), ((ad 9), .inl (k 0, 5, .inl (fun _ => 0))), ((ad 4), .inr (2, [.ref (ad 40), .int 2, .int (-1), .int 0, .int 0, .int 0]))] := hD
      refine lv_aload_n hx hb dX6_feed_47 rfl (lv_at hl 0 rfl) ?_
      refine va_get (D := D) (ci := 4) (v := .ref (ad 4)) (C := RX6) (T := TX6) (N := 10) hx hb hT iw_TX6 hown hK.1 hP 0 rfl rfl 3 (by decide) (hT _ wd_274) (fun _ h9 => h9) rfl dX6_feed_48 ?_
      refine va_get (D := D) (ci := 2) (v := .int 2) (C := RX4) (T := TX4) (N := 6) hx hb hT iw_TX4 hown hK.1 hP 2 rfl rfl 1 (by decide) (hT _ wd_197) (fun _ h9 => h9) rfl dX6_feed_51 ?_
      exact gx_retI C (u := ()) gx_nil gx_noneD hS (by decide) dX6_feed_54
    · refine lv_if_ne (tgt := 16) hx hb dX6_feed_6 (by decide) (fun c_15 => ?_) (fun c_15 => absurd c_15 (by decide))
      refine lv_aload_n hx hb dX6_feed_16 rfl (lv_at hl 0 rfl) ?_
      refine va_get (D := D) (ci := 4) (v := .ref (ad 4)) (C := RX6) (T := TX6) (N := 10) hx hb hT iw_TX6 hown hK.1 hP 0 rfl rfl 3 (by decide) (hT _ wd_274) (fun _ h9 => h9) rfl dX6_feed_17 ?_
      refine va_get (D := D) (ci := 2) (v := .int 0) (C := RX4) (T := TX4) (N := 6) hx hb hT iw_TX4 hown hK.1 hP 2 rfl rfl 1 (by decide) (hT _ wd_197) (fun _ h9 => h9) rfl dX6_feed_20 ?_
      refine lv_iload_n hx hb dX6_feed_23 rfl (lv_at hl 2 rfl) ?_
      refine lv_iadd hx hb dX6_feed_24 ?_
      refine gx_cst (v := 3) (by decide) ?_
      refine lv_sipush (v := 250) hx hb dX6_feed_25 (by decide) ?_
      refine lv_icmp_le (tgt := 38) hx hb dX6_feed_28 (by decide) (fun c_16 => ?_) (fun c_16 => absurd (by decide) c_16)
      refine lv_aload_n hx hb dX6_feed_38 rfl (lv_at hl 0 rfl) ?_
      refine va_get (D := D) (ci := 4) (v := .ref (ad 4)) (C := RX6) (T := TX6) (N := 10) hx hb hT iw_TX6 hown hK.1 hP 0 rfl rfl 3 (by decide) (hT _ wd_274) (fun _ h9 => h9) rfl dX6_feed_39 ?_
      refine lv_iload_n hx hb dX6_feed_42 rfl (lv_at hl 1 rfl) ?_
      refine lv_iload_n hx hb dX6_feed_43 rfl (lv_at hl 2 rfl) ?_
      refine gx_ev (wc := ([((ad 4), .inr (2, [.ref (ad 40), .int 0, .int (-1), .int 0, .int 0, .int 0])), ((ad 40), .inl (k 0, 250, .inl (fun _ => 0)))] : va_W)) (wr := [((ad 0), .inr (4, [.ref (ad 1), .ref (ad 2), .ref (ad 3), .ref (ad 4), .ref (ad 5), .ref (ad 6), .ref (ad 7), .ref (ad 8), .ref (ad 9), .int 0])), ((ad 9), .inl (k 0, 5, .inl (fun _ => 0)))]) (isC := [2, 3]) (isR := [0, 1]) hP hD hS hA rfl rfl (by decide) (by decide) (gx_runV (na := 2) (As := [.int vv, .int 3]) (rest := []) (ci := 2) C hl.1 hK (gx_subP (wc := ([((ad 4), .inr (2, [.ref (ad 40), .int 0, .int (-1), .int 0, .int 0, .int 0])), ((ad 40), .inl (k 0, 250, .inl (fun _ => 0)))] : va_W)) hP [2, 3] rfl) ((hD.sub (ws' := ([((ad 4), .inr (2, [.ref (ad 40), .int 0, .int (-1), .int 0, .int 0, .int 0])), ((ad 40), .inl (k 0, 250, .inl (fun _ => 0)))] : va_W)) [2, 3] (by decide) rfl).weaken (fun _ _ _ _ => trivial)) (k_append3 l D k (ad 4) (ad 40) vv _) gV_RX6_156 (by decide +kernel) rfl rfl ⟨Nat.le_of_ble_eq_true rfl, Nat.le_of_ble_eq_true rfl⟩ rfl rfl rfl rfl (Nat.le_of_ble_eq_true rfl) dX6_feed_44 ⟨Nat.le_of_ble_eq_true rfl, Nat.le_of_ble_eq_true rfl⟩) (fun u_17 H locs h_18 hP hD hS => ?_)
      have hP : va_P D gx_cl [((ad 0), .inr (4, [.ref (ad 1), .ref (ad 2), .ref (ad 3), .ref (ad 4), .ref (ad 5), .ref (ad 6), .ref (ad 7), .ref (ad 8), .ref (ad 9), .int 0])), ((ad 9), .inl (k 0, 5, .inl (fun _ => 0))), ((ad 4), .inr (2, [.ref (ad 40), .int 3, .int (-1), .int 0, .int 0, .int 0]))] H := hP
      have hD : va_D A [((ad 0), .inr (4, [.ref (ad 1), .ref (ad 2), .ref (ad 3), .ref (ad 4), .ref (ad 5), .ref (ad 6), .ref (ad 7), .ref (ad 8), .ref (ad 9), .int 0])), ((ad 9), .inl (k 0, 5, .inl (fun _ => 0))), ((ad 4), .inr (2, [.ref (ad 40), .int 3, .int (-1), .int 0, .int 0, .int 0]))] := hD
      refine lv_aload_n hx hb dX6_feed_47 rfl (lv_at hl 0 rfl) ?_
      refine va_get (D := D) (ci := 4) (v := .ref (ad 4)) (C := RX6) (T := TX6) (N := 10) hx hb hT iw_TX6 hown hK.1 hP 0 rfl rfl 3 (by decide) (hT _ wd_274) (fun _ h9 => h9) rfl dX6_feed_48 ?_
      refine va_get (D := D) (ci := 2) (v := .int 3) (C := RX4) (T := TX4) (N := 6) hx hb hT iw_TX4 hown hK.1 hP 2 rfl rfl 1 (by decide) (hT _ wd_197) (fun _ h9 => h9) rfl dX6_feed_51 ?_
      exact gx_retI C (u := ()) gx_nil gx_noneD hS (by decide) dX6_feed_54
    · refine lv_if_ne (tgt := 16) hx hb dX6_feed_6 (by decide) (fun c_21 => ?_) (fun c_21 => absurd c_21 (by decide))
      refine lv_aload_n hx hb dX6_feed_16 rfl (lv_at hl 0 rfl) ?_
      refine va_get (D := D) (ci := 4) (v := .ref (ad 4)) (C := RX6) (T := TX6) (N := 10) hx hb hT iw_TX6 hown hK.1 hP 0 rfl rfl 3 (by decide) (hT _ wd_274) (fun _ h9 => h9) rfl dX6_feed_17 ?_
      refine va_get (D := D) (ci := 2) (v := .int 0) (C := RX4) (T := TX4) (N := 6) hx hb hT iw_TX4 hown hK.1 hP 2 rfl rfl 1 (by decide) (hT _ wd_197) (fun _ h9 => h9) rfl dX6_feed_20 ?_
      refine lv_iload_n hx hb dX6_feed_23 rfl (lv_at hl 2 rfl) ?_
      refine lv_iadd hx hb dX6_feed_24 ?_
      refine gx_cst (v := 4) (by decide) ?_
      refine lv_sipush (v := 250) hx hb dX6_feed_25 (by decide) ?_
      refine lv_icmp_le (tgt := 38) hx hb dX6_feed_28 (by decide) (fun c_22 => ?_) (fun c_22 => absurd (by decide) c_22)
      refine lv_aload_n hx hb dX6_feed_38 rfl (lv_at hl 0 rfl) ?_
      refine va_get (D := D) (ci := 4) (v := .ref (ad 4)) (C := RX6) (T := TX6) (N := 10) hx hb hT iw_TX6 hown hK.1 hP 0 rfl rfl 3 (by decide) (hT _ wd_274) (fun _ h9 => h9) rfl dX6_feed_39 ?_
      refine lv_iload_n hx hb dX6_feed_42 rfl (lv_at hl 1 rfl) ?_
      refine lv_iload_n hx hb dX6_feed_43 rfl (lv_at hl 2 rfl) ?_
      refine gx_ev (wc := ([((ad 4), .inr (2, [.ref (ad 40), .int 0, .int (-1), .int 0, .int 0, .int 0])), ((ad 40), .inl (k 0, 250, .inl (fun _ => 0)))] : va_W)) (wr := [((ad 0), .inr (4, [.ref (ad 1), .ref (ad 2), .ref (ad 3), .ref (ad 4), .ref (ad 5), .ref (ad 6), .ref (ad 7), .ref (ad 8), .ref (ad 9), .int 0])), ((ad 9), .inl (k 0, 5, .inl (fun _ => 0)))]) (isC := [2, 3]) (isR := [0, 1]) hP hD hS hA rfl rfl (by decide) (by decide) (gx_runV (na := 2) (As := [.int vv, .int 4]) (rest := []) (ci := 2) C hl.1 hK (gx_subP (wc := ([((ad 4), .inr (2, [.ref (ad 40), .int 0, .int (-1), .int 0, .int 0, .int 0])), ((ad 40), .inl (k 0, 250, .inl (fun _ => 0)))] : va_W)) hP [2, 3] rfl) ((hD.sub (ws' := ([((ad 4), .inr (2, [.ref (ad 40), .int 0, .int (-1), .int 0, .int 0, .int 0])), ((ad 40), .inl (k 0, 250, .inl (fun _ => 0)))] : va_W)) [2, 3] (by decide) rfl).weaken (fun _ _ _ _ => trivial)) (k_append4 l D k (ad 4) (ad 40) vv _) gV_RX6_156 (by decide +kernel) rfl rfl ⟨Nat.le_of_ble_eq_true rfl, Nat.le_of_ble_eq_true rfl⟩ rfl rfl rfl rfl (Nat.le_of_ble_eq_true rfl) dX6_feed_44 ⟨Nat.le_of_ble_eq_true rfl, Nat.le_of_ble_eq_true rfl⟩) (fun u_23 H locs h_24 hP hD hS => ?_)
      have hP : va_P D gx_cl [((ad 0), .inr (4, [.ref (ad 1), .ref (ad 2), .ref (ad 3), .ref (ad 4), .ref (ad 5), .ref (ad 6), .ref (ad 7), .ref (ad 8), .ref (ad 9), .int 0])), ((ad 9), .inl (k 0, 5, .inl (fun _ => 0))), ((ad 4), .inr (2, [.ref (ad 40), .int 4, .int (-1), .int 0, .int 0, .int 0]))] H := hP
      have hD : va_D A [((ad 0), .inr (4, [.ref (ad 1), .ref (ad 2), .ref (ad 3), .ref (ad 4), .ref (ad 5), .ref (ad 6), .ref (ad 7), .ref (ad 8), .ref (ad 9), .int 0])), ((ad 9), .inl (k 0, 5, .inl (fun _ => 0))), ((ad 4), .inr (2, [.ref (ad 40), .int 4, .int (-1), .int 0, .int 0, .int 0]))] := hD
      refine lv_aload_n hx hb dX6_feed_47 rfl (lv_at hl 0 rfl) ?_
      refine va_get (D := D) (ci := 4) (v := .ref (ad 4)) (C := RX6) (T := TX6) (N := 10) hx hb hT iw_TX6 hown hK.1 hP 0 rfl rfl 3 (by decide) (hT _ wd_274) (fun _ h9 => h9) rfl dX6_feed_48 ?_
      refine va_get (D := D) (ci := 2) (v := .int 4) (C := RX4) (T := TX4) (N := 6) hx hb hT iw_TX4 hown hK.1 hP 2 rfl rfl 1 (by decide) (hT _ wd_197) (fun _ h9 => h9) rfl dX6_feed_51 ?_
      exact gx_retI C (u := ()) gx_nil gx_noneD hS (by decide) dX6_feed_54
  · refine lv_if_ne (tgt := 16) hx hb dX6_feed_6 (by decide) (fun c_27 => absurd (by decide) c_27) (fun c_27 => ?_)
    refine lv_aload_n hx hb dX6_feed_9 rfl (lv_at hl 0 rfl) ?_
    refine lv_bipush (v := (-2)) hx hb dX6_feed_10 (by decide) ?_
    refine gx_ei (wc := ([((ad 0), .inr (4, [.ref (ad 1), .ref (ad 2), .ref (ad 3), .ref (ad 4), .ref (ad 5), .ref (ad 6), .ref (ad 7), .ref (ad 8), .ref (ad 9), .int 0])), ((ad 9), .inl (k 0, 5, .inl (fun _ => 0)))] : va_W)) (wr := [((ad 4), .inr (2, [.ref (ad 40), .int 0, .int (-1), .int 0, .int 0, .int 0])), ((ad 40), .inl (k 0, 250, .inl (fun _ => 0)))]) (isC := [0, 1]) (isR := [2, 3]) hP hD hS hA rfl rfl (by decide) (by decide) (gx_runV (na := 1) (As := [.int (-2)]) (rest := []) (ci := 4) C hl.1 hK (gx_subP (wc := ([((ad 0), .inr (4, [.ref (ad 1), .ref (ad 2), .ref (ad 3), .ref (ad 4), .ref (ad 5), .ref (ad 6), .ref (ad 7), .ref (ad 8), .ref (ad 9), .int 0])), ((ad 9), .inl (k 0, 5, .inl (fun _ => 0)))] : va_W)) hP [0, 1] rfl) ((hD.sub (ws' := ([((ad 0), .inr (4, [.ref (ad 1), .ref (ad 2), .ref (ad 3), .ref (ad 4), .ref (ad 5), .ref (ad 6), .ref (ad 7), .ref (ad 8), .ref (ad 9), .int 0])), ((ad 9), .inl (k 0, 5, .inl (fun _ => 0)))] : va_W)) [0, 1] (by decide) rfl).weaken (fun _ _ _ _ => trivial)) (k_refuse2 l D k ad _) gV_RX6_61 (by decide +kernel) rfl rfl ⟨Nat.le_of_ble_eq_true rfl, Nat.le_of_ble_eq_true rfl⟩ rfl rfl rfl rfl (Nat.le_of_ble_eq_true rfl) dX6_feed_12 ⟨Nat.le_of_ble_eq_true rfl, Nat.le_of_ble_eq_true rfl⟩) (fun r_30 u_28 H locs h_29 hP hD hS => ?_)
    have h_29 : r_30 = -2 := h_29
    have hP : va_P D gx_cl [((ad 4), .inr (2, [.ref (ad 40), .int 0, .int (-1), .int 0, .int 0, .int 0])), ((ad 40), .inl (k 0, 250, .inl (fun _ => 0)))] H := hP
    have hD : va_D A [((ad 4), .inr (2, [.ref (ad 40), .int 0, .int (-1), .int 0, .int 0, .int 0])), ((ad 40), .inl (k 0, 250, .inl (fun _ => 0)))] := hD
    have eh_29 := h_29
    subst eh_29
    exact gx_retI C (u := ()) gx_nil gx_noneD hS (by simp [gs_feed, c_1]) dX6_feed_15
set_option maxHeartbeats 4000000 in
set_option maxRecDepth 100000 in
theorem x_wipe (l : Launch) (D : va_G) (k : Nat → ClassId) (ad : Nat → Nat) (sz : Nat) : Met l yX6_wipe (.code yX6_wipe cX6_wipe 2 (some .int) :: gx_T) ({ frames := 0, cells := 0, slots := 0, locals := 0 }) (gx_Pre D k [.ref (ad 0)] ([((ad 0), .inr (4, [.ref (ad 1), .ref (ad 2), .ref (ad 3), .ref (ad 4), .ref (ad 5), .ref (ad 6), .ref (ad 7), .ref (ad 8), .ref (ad 9), .int 0])), ((ad 4), .inr (2, [.ref (ad 40), .int 0, .int (-1), .int 0, .int 0, .int 0]))]) sz) (gx_Qi D (fun (r : Int32) (u : Unit) => r = 0) (fun (u : Unit) => ([] : va_W)) (va_A ([((ad 0), .inr (4, [.ref (ad 1), .ref (ad 2), .ref (ad 3), .ref (ad 4), .ref (ad 5), .ref (ad 6), .ref (ad 7), .ref (ad 8), .ref (ad 9), .int 0])), ((ad 4), .inr (2, [.ref (ad 40), .int 0, .int (-1), .int 0, .int 0, .int 0]))]) sz)) 0 0 (va_A ([((ad 0), .inr (4, [.ref (ad 1), .ref (ad 2), .ref (ad 3), .ref (ad 4), .ref (ad 5), .ref (ad 6), .ref (ad 7), .ref (ad 8), .ref (ad 9), .int 0])), ((ad 4), .inr (2, [.ref (ad 40), .int 0, .int (-1), .int 0, .int 0, .int 0]))]) sz) := by
  refine gx_metE (Qc := fun A => gx_Qi D (fun (r : Int32) (u : Unit) => r = 0) (fun (u : Unit) => ([] : va_W)) A) (y := yX6_wipe) (cc := cX6_wipe) (n := 2) (ret := (some .int)) (av := [.ref (ad 0)]) (by decide) (Nat.le_of_ble_eq_true rfl) ?_
  intro p e s m below meth c A ls C hA hP hD hK hS hl
  obtain ⟨hx, hb, hr, hml, hown, hT, hlk, hin⟩ := id C
  have hown : s.vm.findClass RX6 = some m.cls := hown
  have hl : lv_has ls 2 [(0, .ref (ad 0))] := hl
  refine lv_aload_n hx hb dX6_wipe_0 rfl (lv_at hl 0 rfl) ?_
  refine va_get (D := D) (ci := 4) (v := .ref (ad 4)) (C := RX6) (T := TX6) (N := 10) hx hb hT iw_TX6 hown hK.1 hP 0 rfl rfl 3 (by decide) (hT _ wd_274) (fun _ h9 => h9) rfl dX6_wipe_1 ?_
  refine va_get (D := D) (ci := 2) (v := .int 0) (C := RX4) (T := TX4) (N := 6) hx hb hT iw_TX4 hown hK.1 hP 1 rfl rfl 1 (by decide) (hT _ wd_197) (fun _ h9 => h9) rfl dX6_wipe_4 ?_
  refine lv_istore_n (lv' := [(1, .int 0), (0, .ref (ad 0))]) hx hb dX6_wipe_7 rfl hl (by decide) rfl (fun ls hl => ?_)
  refine lv_aload_n hx hb dX6_wipe_8 rfl (lv_at hl 1 rfl) ?_
  refine va_get (D := D) (ci := 4) (v := .ref (ad 4)) (C := RX6) (T := TX6) (N := 10) hx hb hT iw_TX6 hown hK.1 hP 0 rfl rfl 3 (by decide) (hT _ wd_274) (fun _ h9 => h9) rfl dX6_wipe_9 ?_
  refine lv_iconst (v := 0) hx hb dX6_wipe_12 (by decide) ?_
  refine va_put (D := D) (ci := 2) (v := .int 0) (ty := .int) (C := RX4) (T := TX4) (N := 6) hx hb hT iw_TX4 tyX4 tyX4_ok nmX4 hown hK.1 hP hD hS 1 rfl rfl 1 (by decide) (hT _ wd_197) (fun _ h9 => h9) rfl (by decide +kernel) rfl rfl (Nat.le_of_ble_eq_true rfl) dX6_wipe_13 (fun H locs hP hD hS => ?_)
  have hP : va_P D gx_cl [((ad 0), .inr (4, [.ref (ad 1), .ref (ad 2), .ref (ad 3), .ref (ad 4), .ref (ad 5), .ref (ad 6), .ref (ad 7), .ref (ad 8), .ref (ad 9), .int 0])), ((ad 4), .inr (2, [.ref (ad 40), .int 0, .int (-1), .int 0, .int 0, .int 0]))] H := hP
  have hD : va_D A [((ad 0), .inr (4, [.ref (ad 1), .ref (ad 2), .ref (ad 3), .ref (ad 4), .ref (ad 5), .ref (ad 6), .ref (ad 7), .ref (ad 8), .ref (ad 9), .int 0])), ((ad 4), .inr (2, [.ref (ad 40), .int 0, .int (-1), .int 0, .int 0, .int 0]))] := hD
  refine lv_iload_n hx hb dX6_wipe_16 rfl (lv_at hl 0 rfl) ?_
  exact gx_retI C (u := ()) gx_nil gx_noneD hS (rfl) dX6_wipe_17
set_option maxHeartbeats 4000000 in
set_option maxRecDepth 100000 in
theorem x_land (l : Launch) (D : va_G) (k : Nat → ClassId) (ad : Nat → Nat) (wn : Nat → Int32) (wt : Nat → Int32) (sz : Nat) : Met l yX6_land (.code yX6_land cX6_land 3 (some .int) :: gx_T) ({ frames := 3, cells := 0, slots := 0, locals := 81 }) (gx_Pre D k [.ref (ad 0)] ([((ad 0), .inr (4, [.ref (ad 1), .ref (ad 2), .ref (ad 3), .ref (ad 4), .ref (ad 5), .ref (ad 6), .ref (ad 7), .ref (ad 8), .ref (ad 9), .int 0])), ((ad 1), .inr (0, [.ref (ad 10), .ref (ad 11), .ref (ad 12), .ref (ad 13), .ref (ad 14), .ref (ad 15), .ref (ad 16), .ref (ad 17), .ref (ad 18), .int 0, .int 0, .int 0, .int 0, .int 1, .int 0, .int 0, .int 0])), ((ad 3), .inr (0, [.ref (ad 30), .ref (ad 31), .ref (ad 32), .ref (ad 33), .ref (ad 34), .ref (ad 35), .ref (ad 36), .ref (ad 37), .ref (ad 38), .int 0, .int 0, .int 0, .int 0, .int 1, .int 0, .int 0, .int 0])), ((ad 4), .inr (2, [.ref (ad 40), .int 0, .int (-1), .int 0, .int 0, .int 0])), ((ad 9), .inl (k 0, 5, .inl (fun _ => 0))), ((ad 10), .inl (k 0, 16, .inl (fun _ => 0))), ((ad 11), .inl (k 0, 16, .inl (fun _ => 0))), ((ad 12), .inl (k 0, 16, .inl (fun _ => 0))), ((ad 13), .inl (k 0, 16, .inl (fun _ => 0))), ((ad 14), .inl (k 0, 6, .inl (fun _ => 0))), ((ad 15), .inl (k 0, 6, .inl (fun _ => 0))), ((ad 16), .inl (k 0, 6, .inl (fun _ => 0))), ((ad 17), .inl (k 0, 6, .inl (fun _ => 0))), ((ad 18), .inl (k 0, 96, .inl wn)), ((ad 30), .inl (k 0, 16, .inl (fun _ => 0))), ((ad 31), .inl (k 0, 16, .inl (fun _ => 0))), ((ad 32), .inl (k 0, 16, .inl (fun _ => 0))), ((ad 33), .inl (k 0, 16, .inl (fun _ => 0))), ((ad 34), .inl (k 0, 6, .inl (fun _ => 0))), ((ad 35), .inl (k 0, 6, .inl (fun _ => 0))), ((ad 36), .inl (k 0, 6, .inl (fun _ => 0))), ((ad 37), .inl (k 0, 6, .inl (fun _ => 0))), ((ad 38), .inl (k 0, 96, .inl wt))]) sz) (gx_Qi D (fun (r : Int32) (u : Unit) => r = -20) (fun (u : Unit) => ([] : va_W)) (va_A ([((ad 0), .inr (4, [.ref (ad 1), .ref (ad 2), .ref (ad 3), .ref (ad 4), .ref (ad 5), .ref (ad 6), .ref (ad 7), .ref (ad 8), .ref (ad 9), .int 0])), ((ad 1), .inr (0, [.ref (ad 10), .ref (ad 11), .ref (ad 12), .ref (ad 13), .ref (ad 14), .ref (ad 15), .ref (ad 16), .ref (ad 17), .ref (ad 18), .int 0, .int 0, .int 0, .int 0, .int 1, .int 0, .int 0, .int 0])), ((ad 3), .inr (0, [.ref (ad 30), .ref (ad 31), .ref (ad 32), .ref (ad 33), .ref (ad 34), .ref (ad 35), .ref (ad 36), .ref (ad 37), .ref (ad 38), .int 0, .int 0, .int 0, .int 0, .int 1, .int 0, .int 0, .int 0])), ((ad 4), .inr (2, [.ref (ad 40), .int 0, .int (-1), .int 0, .int 0, .int 0])), ((ad 9), .inl (k 0, 5, .inl (fun _ => 0))), ((ad 10), .inl (k 0, 16, .inl (fun _ => 0))), ((ad 11), .inl (k 0, 16, .inl (fun _ => 0))), ((ad 12), .inl (k 0, 16, .inl (fun _ => 0))), ((ad 13), .inl (k 0, 16, .inl (fun _ => 0))), ((ad 14), .inl (k 0, 6, .inl (fun _ => 0))), ((ad 15), .inl (k 0, 6, .inl (fun _ => 0))), ((ad 16), .inl (k 0, 6, .inl (fun _ => 0))), ((ad 17), .inl (k 0, 6, .inl (fun _ => 0))), ((ad 18), .inl (k 0, 96, .inl wn)), ((ad 30), .inl (k 0, 16, .inl (fun _ => 0))), ((ad 31), .inl (k 0, 16, .inl (fun _ => 0))), ((ad 32), .inl (k 0, 16, .inl (fun _ => 0))), ((ad 33), .inl (k 0, 16, .inl (fun _ => 0))), ((ad 34), .inl (k 0, 6, .inl (fun _ => 0))), ((ad 35), .inl (k 0, 6, .inl (fun _ => 0))), ((ad 36), .inl (k 0, 6, .inl (fun _ => 0))), ((ad 37), .inl (k 0, 6, .inl (fun _ => 0))), ((ad 38), .inl (k 0, 96, .inl wt))]) sz)) 0 0 (va_A ([((ad 0), .inr (4, [.ref (ad 1), .ref (ad 2), .ref (ad 3), .ref (ad 4), .ref (ad 5), .ref (ad 6), .ref (ad 7), .ref (ad 8), .ref (ad 9), .int 0])), ((ad 1), .inr (0, [.ref (ad 10), .ref (ad 11), .ref (ad 12), .ref (ad 13), .ref (ad 14), .ref (ad 15), .ref (ad 16), .ref (ad 17), .ref (ad 18), .int 0, .int 0, .int 0, .int 0, .int 1, .int 0, .int 0, .int 0])), ((ad 3), .inr (0, [.ref (ad 30), .ref (ad 31), .ref (ad 32), .ref (ad 33), .ref (ad 34), .ref (ad 35), .ref (ad 36), .ref (ad 37), .ref (ad 38), .int 0, .int 0, .int 0, .int 0, .int 1, .int 0, .int 0, .int 0])), ((ad 4), .inr (2, [.ref (ad 40), .int 0, .int (-1), .int 0, .int 0, .int 0])), ((ad 9), .inl (k 0, 5, .inl (fun _ => 0))), ((ad 10), .inl (k 0, 16, .inl (fun _ => 0))), ((ad 11), .inl (k 0, 16, .inl (fun _ => 0))), ((ad 12), .inl (k 0, 16, .inl (fun _ => 0))), ((ad 13), .inl (k 0, 16, .inl (fun _ => 0))), ((ad 14), .inl (k 0, 6, .inl (fun _ => 0))), ((ad 15), .inl (k 0, 6, .inl (fun _ => 0))), ((ad 16), .inl (k 0, 6, .inl (fun _ => 0))), ((ad 17), .inl (k 0, 6, .inl (fun _ => 0))), ((ad 18), .inl (k 0, 96, .inl wn)), ((ad 30), .inl (k 0, 16, .inl (fun _ => 0))), ((ad 31), .inl (k 0, 16, .inl (fun _ => 0))), ((ad 32), .inl (k 0, 16, .inl (fun _ => 0))), ((ad 33), .inl (k 0, 16, .inl (fun _ => 0))), ((ad 34), .inl (k 0, 6, .inl (fun _ => 0))), ((ad 35), .inl (k 0, 6, .inl (fun _ => 0))), ((ad 36), .inl (k 0, 6, .inl (fun _ => 0))), ((ad 37), .inl (k 0, 6, .inl (fun _ => 0))), ((ad 38), .inl (k 0, 96, .inl wt))]) sz) := by
  refine gx_metE (Qc := fun A => gx_Qi D (fun (r : Int32) (u : Unit) => r = -20) (fun (u : Unit) => ([] : va_W)) A) (y := yX6_land) (cc := cX6_land) (n := 3) (ret := (some .int)) (av := [.ref (ad 0)]) (by decide) (Nat.le_of_ble_eq_true rfl) ?_
  intro p e s m below meth c A ls C hA hP hD hK hS hl
  obtain ⟨hx, hb, hr, hml, hown, hT, hlk, hin⟩ := id C
  have hown : s.vm.findClass RX6 = some m.cls := hown
  have hl : lv_has ls 3 [(0, .ref (ad 0))] := hl
  refine lv_aload_n hx hb dX6_land_0 rfl (lv_at hl 0 rfl) ?_
  refine va_get (D := D) (ci := 4) (v := .ref (ad 3)) (C := RX6) (T := TX6) (N := 10) hx hb hT iw_TX6 hown hK.1 hP 0 rfl rfl 2 (by decide) (hT _ wd_273) (fun _ h9 => h9) rfl dX6_land_1 ?_
  refine lv_aload_n hx hb dX6_land_4 rfl (lv_at hl 0 rfl) ?_
  refine va_get (D := D) (ci := 4) (v := .ref (ad 1)) (C := RX6) (T := TX6) (N := 10) hx hb hT iw_TX6 hown hK.1 hP 0 rfl rfl 0 (by decide) (hT _ wd_271) (fun _ h9 => h9) rfl dX6_land_5 ?_
  refine gx_ev (wc := ([((ad 3), .inr (0, [.ref (ad 30), .ref (ad 31), .ref (ad 32), .ref (ad 33), .ref (ad 34), .ref (ad 35), .ref (ad 36), .ref (ad 37), .ref (ad 38), .int 0, .int 0, .int 0, .int 0, .int 1, .int 0, .int 0, .int 0])), ((ad 1), .inr (0, [.ref (ad 10), .ref (ad 11), .ref (ad 12), .ref (ad 13), .ref (ad 14), .ref (ad 15), .ref (ad 16), .ref (ad 17), .ref (ad 18), .int 0, .int 0, .int 0, .int 0, .int 1, .int 0, .int 0, .int 0])), ((ad 30), .inl (k 0, 16, .inl (fun _ => 0))), ((ad 31), .inl (k 0, 16, .inl (fun _ => 0))), ((ad 32), .inl (k 0, 16, .inl (fun _ => 0))), ((ad 33), .inl (k 0, 16, .inl (fun _ => 0))), ((ad 34), .inl (k 0, 6, .inl (fun _ => 0))), ((ad 35), .inl (k 0, 6, .inl (fun _ => 0))), ((ad 36), .inl (k 0, 6, .inl (fun _ => 0))), ((ad 37), .inl (k 0, 6, .inl (fun _ => 0))), ((ad 38), .inl (k 0, 96, .inl wt)), ((ad 10), .inl (k 0, 16, .inl (fun _ => 0))), ((ad 11), .inl (k 0, 16, .inl (fun _ => 0))), ((ad 12), .inl (k 0, 16, .inl (fun _ => 0))), ((ad 13), .inl (k 0, 16, .inl (fun _ => 0))), ((ad 14), .inl (k 0, 6, .inl (fun _ => 0))), ((ad 15), .inl (k 0, 6, .inl (fun _ => 0))), ((ad 16), .inl (k 0, 6, .inl (fun _ => 0))), ((ad 17), .inl (k 0, 6, .inl (fun _ => 0))), ((ad 18), .inl (k 0, 96, .inl wn))] : va_W)) (wr := [((ad 0), .inr (4, [.ref (ad 1), .ref (ad 2), .ref (ad 3), .ref (ad 4), .ref (ad 5), .ref (ad 6), .ref (ad 7), .ref (ad 8), .ref (ad 9), .int 0])), ((ad 4), .inr (2, [.ref (ad 40), .int 0, .int (-1), .int 0, .int 0, .int 0])), ((ad 9), .inl (k 0, 5, .inl (fun _ => 0)))]) (isC := [2, 1, 14, 15, 16, 17, 18, 19, 20, 21, 22, 5, 6, 7, 8, 9, 10, 11, 12, 13]) (isR := [0, 3, 4]) hP hD hS hA rfl rfl (by decide) (by decide) (gx_runV (na := 1) (As := [.ref (ad 1)]) (rest := []) (ci := 0) C hl.1 hK (gx_subP (wc := ([((ad 3), .inr (0, [.ref (ad 30), .ref (ad 31), .ref (ad 32), .ref (ad 33), .ref (ad 34), .ref (ad 35), .ref (ad 36), .ref (ad 37), .ref (ad 38), .int 0, .int 0, .int 0, .int 0, .int 1, .int 0, .int 0, .int 0])), ((ad 1), .inr (0, [.ref (ad 10), .ref (ad 11), .ref (ad 12), .ref (ad 13), .ref (ad 14), .ref (ad 15), .ref (ad 16), .ref (ad 17), .ref (ad 18), .int 0, .int 0, .int 0, .int 0, .int 1, .int 0, .int 0, .int 0])), ((ad 30), .inl (k 0, 16, .inl (fun _ => 0))), ((ad 31), .inl (k 0, 16, .inl (fun _ => 0))), ((ad 32), .inl (k 0, 16, .inl (fun _ => 0))), ((ad 33), .inl (k 0, 16, .inl (fun _ => 0))), ((ad 34), .inl (k 0, 6, .inl (fun _ => 0))), ((ad 35), .inl (k 0, 6, .inl (fun _ => 0))), ((ad 36), .inl (k 0, 6, .inl (fun _ => 0))), ((ad 37), .inl (k 0, 6, .inl (fun _ => 0))), ((ad 38), .inl (k 0, 96, .inl wt)), ((ad 10), .inl (k 0, 16, .inl (fun _ => 0))), ((ad 11), .inl (k 0, 16, .inl (fun _ => 0))), ((ad 12), .inl (k 0, 16, .inl (fun _ => 0))), ((ad 13), .inl (k 0, 16, .inl (fun _ => 0))), ((ad 14), .inl (k 0, 6, .inl (fun _ => 0))), ((ad 15), .inl (k 0, 6, .inl (fun _ => 0))), ((ad 16), .inl (k 0, 6, .inl (fun _ => 0))), ((ad 17), .inl (k 0, 6, .inl (fun _ => 0))), ((ad 18), .inl (k 0, 96, .inl wn))] : va_W)) hP [2, 1, 14, 15, 16, 17, 18, 19, 20, 21, 22, 5, 6, 7, 8, 9, 10, 11, 12, 13] rfl) ((hD.sub (ws' := ([((ad 3), .inr (0, [.ref (ad 30), .ref (ad 31), .ref (ad 32), .ref (ad 33), .ref (ad 34), .ref (ad 35), .ref (ad 36), .ref (ad 37), .ref (ad 38), .int 0, .int 0, .int 0, .int 0, .int 1, .int 0, .int 0, .int 0])), ((ad 1), .inr (0, [.ref (ad 10), .ref (ad 11), .ref (ad 12), .ref (ad 13), .ref (ad 14), .ref (ad 15), .ref (ad 16), .ref (ad 17), .ref (ad 18), .int 0, .int 0, .int 0, .int 0, .int 1, .int 0, .int 0, .int 0])), ((ad 30), .inl (k 0, 16, .inl (fun _ => 0))), ((ad 31), .inl (k 0, 16, .inl (fun _ => 0))), ((ad 32), .inl (k 0, 16, .inl (fun _ => 0))), ((ad 33), .inl (k 0, 16, .inl (fun _ => 0))), ((ad 34), .inl (k 0, 6, .inl (fun _ => 0))), ((ad 35), .inl (k 0, 6, .inl (fun _ => 0))), ((ad 36), .inl (k 0, 6, .inl (fun _ => 0))), ((ad 37), .inl (k 0, 6, .inl (fun _ => 0))), ((ad 38), .inl (k 0, 96, .inl wt)), ((ad 10), .inl (k 0, 16, .inl (fun _ => 0))), ((ad 11), .inl (k 0, 16, .inl (fun _ => 0))), ((ad 12), .inl (k 0, 16, .inl (fun _ => 0))), ((ad 13), .inl (k 0, 16, .inl (fun _ => 0))), ((ad 14), .inl (k 0, 6, .inl (fun _ => 0))), ((ad 15), .inl (k 0, 6, .inl (fun _ => 0))), ((ad 16), .inl (k 0, 6, .inl (fun _ => 0))), ((ad 17), .inl (k 0, 6, .inl (fun _ => 0))), ((ad 18), .inl (k 0, 96, .inl wn))] : va_W)) [2, 1, 14, 15, 16, 17, 18, 19, 20, 21, 22, 5, 6, 7, 8, 9, 10, 11, 12, 13] (by decide) rfl).weaken (fun _ _ _ _ => trivial)) (k_become l D k (ad 3) (ad 30) (ad 31) (ad 32) (ad 33) (ad 34) (ad 35) (ad 36) (ad 37) (ad 38) (ad 1) (ad 10) (ad 11) (ad 12) (ad 13) (ad 14) (ad 15) (ad 16) (ad 17) (ad 18) wt wn _) gV_RX6_159 (by decide +kernel) rfl rfl ⟨Nat.le_of_ble_eq_true rfl, Nat.le_of_ble_eq_true rfl⟩ rfl rfl rfl rfl (Nat.le_of_ble_eq_true rfl) dX6_land_8 ⟨Nat.le_of_ble_eq_true rfl, Nat.le_of_ble_eq_true rfl⟩) (fun u_1 H locs h_2 hP hD hS => ?_)
  have hP : va_P D gx_cl [((ad 0), .inr (4, [.ref (ad 1), .ref (ad 2), .ref (ad 3), .ref (ad 4), .ref (ad 5), .ref (ad 6), .ref (ad 7), .ref (ad 8), .ref (ad 9), .int 0])), ((ad 4), .inr (2, [.ref (ad 40), .int 0, .int (-1), .int 0, .int 0, .int 0])), ((ad 9), .inl (k 0, 5, .inl (fun _ => 0))), ((ad 3), .inr (0, [.ref (ad 30), .ref (ad 31), .ref (ad 32), .ref (ad 33), .ref (ad 34), .ref (ad 35), .ref (ad 36), .ref (ad 37), .ref (ad 38), .int 0, .int 0, .int 0, .int 0, .int 1, .int 0, .int 0, .int 0]))] H := hP
  have hD : va_D A [((ad 0), .inr (4, [.ref (ad 1), .ref (ad 2), .ref (ad 3), .ref (ad 4), .ref (ad 5), .ref (ad 6), .ref (ad 7), .ref (ad 8), .ref (ad 9), .int 0])), ((ad 4), .inr (2, [.ref (ad 40), .int 0, .int (-1), .int 0, .int 0, .int 0])), ((ad 9), .inl (k 0, 5, .inl (fun _ => 0))), ((ad 3), .inr (0, [.ref (ad 30), .ref (ad 31), .ref (ad 32), .ref (ad 33), .ref (ad 34), .ref (ad 35), .ref (ad 36), .ref (ad 37), .ref (ad 38), .int 0, .int 0, .int 0, .int 0, .int 1, .int 0, .int 0, .int 0]))] := hD
  refine lv_aload_n hx hb dX6_land_11 rfl (lv_at hl 0 rfl) ?_
  refine va_get (D := D) (ci := 4) (v := .ref (ad 4)) (C := RX6) (T := TX6) (N := 10) hx hb hT iw_TX6 hown hK.1 hP 0 rfl rfl 3 (by decide) (hT _ wd_274) (fun _ h9 => h9) rfl dX6_land_12 ?_
  refine lv_aload_n hx hb dX6_land_15 rfl (lv_at hl 0 rfl) ?_
  refine va_get (D := D) (ci := 4) (v := .ref (ad 3)) (C := RX6) (T := TX6) (N := 10) hx hb hT iw_TX6 hown hK.1 hP 0 rfl rfl 2 (by decide) (hT _ wd_273) (fun _ h9 => h9) rfl dX6_land_16 ?_
  refine gx_ei (wc := ([((ad 4), .inr (2, [.ref (ad 40), .int 0, .int (-1), .int 0, .int 0, .int 0])), ((ad 3), .inr (0, [.ref (ad 30), .ref (ad 31), .ref (ad 32), .ref (ad 33), .ref (ad 34), .ref (ad 35), .ref (ad 36), .ref (ad 37), .ref (ad 38), .int 0, .int 0, .int 0, .int 0, .int 1, .int 0, .int 0, .int 0]))] : va_W)) (wr := [((ad 0), .inr (4, [.ref (ad 1), .ref (ad 2), .ref (ad 3), .ref (ad 4), .ref (ad 5), .ref (ad 6), .ref (ad 7), .ref (ad 8), .ref (ad 9), .int 0])), ((ad 9), .inl (k 0, 5, .inl (fun _ => 0)))]) (isC := [1, 3]) (isR := [0, 2]) hP hD hS hA rfl rfl (by decide) (by decide) (gx_runV (na := 1) (As := [.ref (ad 3)]) (rest := []) (ci := 2) C hl.1 hK (gx_subP (wc := ([((ad 4), .inr (2, [.ref (ad 40), .int 0, .int (-1), .int 0, .int 0, .int 0])), ((ad 3), .inr (0, [.ref (ad 30), .ref (ad 31), .ref (ad 32), .ref (ad 33), .ref (ad 34), .ref (ad 35), .ref (ad 36), .ref (ad 37), .ref (ad 38), .int 0, .int 0, .int 0, .int 0, .int 1, .int 0, .int 0, .int 0]))] : va_W)) hP [1, 3] rfl) ((hD.sub (ws' := ([((ad 4), .inr (2, [.ref (ad 40), .int 0, .int (-1), .int 0, .int 0, .int 0])), ((ad 3), .inr (0, [.ref (ad 30), .ref (ad 31), .ref (ad 32), .ref (ad 33), .ref (ad 34), .ref (ad 35), .ref (ad 36), .ref (ad 37), .ref (ad 38), .int 0, .int 0, .int 0, .int 0, .int 1, .int 0, .int 0, .int 0]))] : va_W)) [1, 3] (by decide) rfl).weaken (fun _ _ _ _ => trivial)) (k_readOnto l D k (ad 4) (ad 40) (ad 3) (ad 30) (ad 31) (ad 32) (ad 33) (ad 34) (ad 35) (ad 36) (ad 37) (ad 38) _) gV_RX6_163 (by decide +kernel) rfl rfl ⟨Nat.le_of_ble_eq_true rfl, Nat.le_of_ble_eq_true rfl⟩ rfl rfl rfl rfl (Nat.le_of_ble_eq_true rfl) dX6_land_19 ⟨Nat.le_of_ble_eq_true rfl, Nat.le_of_ble_eq_true rfl⟩) (fun r_7 u_5 H locs h_6 hP hD hS => ?_)
  have h_6 : r_7 = 1 := h_6
  have hP : va_P D gx_cl [((ad 0), .inr (4, [.ref (ad 1), .ref (ad 2), .ref (ad 3), .ref (ad 4), .ref (ad 5), .ref (ad 6), .ref (ad 7), .ref (ad 8), .ref (ad 9), .int 0])), ((ad 9), .inl (k 0, 5, .inl (fun _ => 0))), ((ad 4), .inr (2, [.ref (ad 40), .int 0, .int 0, .int 0, .int 0, .int 0]))] H := hP
  have hD : va_D A [((ad 0), .inr (4, [.ref (ad 1), .ref (ad 2), .ref (ad 3), .ref (ad 4), .ref (ad 5), .ref (ad 6), .ref (ad 7), .ref (ad 8), .ref (ad 9), .int 0])), ((ad 9), .inl (k 0, 5, .inl (fun _ => 0))), ((ad 4), .inr (2, [.ref (ad 40), .int 0, .int 0, .int 0, .int 0, .int 0]))] := hD
  have eh_6 := h_6
  subst eh_6
  refine lv_istore_n (lv' := [(1, .int 1), (0, .ref (ad 0))]) hx hb dX6_land_22 rfl hl (by decide) rfl (fun ls hl => ?_)
  refine lv_aload_n hx hb dX6_land_23 rfl (lv_at hl 1 rfl) ?_
  refine va_get (D := D) (ci := 4) (v := .ref (ad 4)) (C := RX6) (T := TX6) (N := 10) hx hb hT iw_TX6 hown hK.1 hP 0 rfl rfl 3 (by decide) (hT _ wd_274) (fun _ h9 => h9) rfl dX6_land_24 ?_
  refine va_get (D := D) (ci := 2) (v := .int 0) (C := RX4) (T := TX4) (N := 6) hx hb hT iw_TX4 hown hK.1 hP 2 rfl rfl 2 (by decide) (hT _ wd_199) (fun _ h9 => h9) rfl dX6_land_27 ?_
  refine lv_istore_n (lv' := [(2, .int 0), (1, .int 1), (0, .ref (ad 0))]) hx hb dX6_land_30 rfl hl (by decide) rfl (fun ls hl => ?_)
  refine lv_aload_n hx hb dX6_land_31 rfl (lv_at hl 2 rfl) ?_
  refine va_get (D := D) (ci := 4) (v := .ref (ad 4)) (C := RX6) (T := TX6) (N := 10) hx hb hT iw_TX6 hown hK.1 hP 0 rfl rfl 3 (by decide) (hT _ wd_274) (fun _ h9 => h9) rfl dX6_land_32 ?_
  refine lv_iconst (v := 0) hx hb dX6_land_35 (by decide) ?_
  refine va_put (D := D) (ci := 2) (v := .int 0) (ty := .int) (C := RX4) (T := TX4) (N := 6) hx hb hT iw_TX4 tyX4 tyX4_ok nmX4 hown hK.1 hP hD hS 2 rfl rfl 1 (by decide) (hT _ wd_197) (fun _ h9 => h9) rfl (by decide +kernel) rfl rfl (Nat.le_of_ble_eq_true rfl) dX6_land_36 (fun H locs hP hD hS => ?_)
  have hP : va_P D gx_cl [((ad 0), .inr (4, [.ref (ad 1), .ref (ad 2), .ref (ad 3), .ref (ad 4), .ref (ad 5), .ref (ad 6), .ref (ad 7), .ref (ad 8), .ref (ad 9), .int 0])), ((ad 9), .inl (k 0, 5, .inl (fun _ => 0))), ((ad 4), .inr (2, [.ref (ad 40), .int 0, .int 0, .int 0, .int 0, .int 0]))] H := hP
  have hD : va_D A [((ad 0), .inr (4, [.ref (ad 1), .ref (ad 2), .ref (ad 3), .ref (ad 4), .ref (ad 5), .ref (ad 6), .ref (ad 7), .ref (ad 8), .ref (ad 9), .int 0])), ((ad 9), .inl (k 0, 5, .inl (fun _ => 0))), ((ad 4), .inr (2, [.ref (ad 40), .int 0, .int 0, .int 0, .int 0, .int 0]))] := hD
  refine lv_iload_n hx hb dX6_land_39 rfl (lv_at hl 0 rfl) ?_
  refine lv_iconst (v := (-1)) hx hb dX6_land_40 (by decide) ?_
  refine lv_icmp_eq (tgt := 56) hx hb dX6_land_41 (by decide) (fun c_9 => absurd c_9 (by decide)) (fun c_9 => ?_)
  refine lv_aload_n hx hb dX6_land_44 rfl (lv_at hl 2 rfl) ?_
  refine lv_bipush (v := (-2)) hx hb dX6_land_45 (by decide) ?_
  refine gx_ei (wc := ([((ad 0), .inr (4, [.ref (ad 1), .ref (ad 2), .ref (ad 3), .ref (ad 4), .ref (ad 5), .ref (ad 6), .ref (ad 7), .ref (ad 8), .ref (ad 9), .int 0])), ((ad 9), .inl (k 0, 5, .inl (fun _ => 0)))] : va_W)) (wr := [((ad 4), .inr (2, [.ref (ad 40), .int 0, .int 0, .int 0, .int 0, .int 0]))]) (isC := [0, 1]) (isR := [2]) hP hD hS hA rfl rfl (by decide) (by decide) (gx_runV (na := 1) (As := [.int (-2)]) (rest := []) (ci := 4) C hl.1 hK (gx_subP (wc := ([((ad 0), .inr (4, [.ref (ad 1), .ref (ad 2), .ref (ad 3), .ref (ad 4), .ref (ad 5), .ref (ad 6), .ref (ad 7), .ref (ad 8), .ref (ad 9), .int 0])), ((ad 9), .inl (k 0, 5, .inl (fun _ => 0)))] : va_W)) hP [0, 1] rfl) ((hD.sub (ws' := ([((ad 0), .inr (4, [.ref (ad 1), .ref (ad 2), .ref (ad 3), .ref (ad 4), .ref (ad 5), .ref (ad 6), .ref (ad 7), .ref (ad 8), .ref (ad 9), .int 0])), ((ad 9), .inl (k 0, 5, .inl (fun _ => 0)))] : va_W)) [0, 1] (by decide) rfl).weaken (fun _ _ _ _ => trivial)) (k_refuse2 l D k ad _) gV_RX6_61 (by decide +kernel) rfl rfl ⟨Nat.le_of_ble_eq_true rfl, Nat.le_of_ble_eq_true rfl⟩ rfl rfl rfl rfl (Nat.le_of_ble_eq_true rfl) dX6_land_47 ⟨Nat.le_of_ble_eq_true rfl, Nat.le_of_ble_eq_true rfl⟩) (fun r_12 u_10 H locs h_11 hP hD hS => ?_)
  have h_11 : r_12 = -2 := h_11
  have hP : va_P D gx_cl [((ad 4), .inr (2, [.ref (ad 40), .int 0, .int 0, .int 0, .int 0, .int 0]))] H := hP
  have hD : va_D A [((ad 4), .inr (2, [.ref (ad 40), .int 0, .int 0, .int 0, .int 0, .int 0]))] := hD
  have eh_11 := h_11
  subst eh_11
  refine lv_pop hx hb dX6_land_50 rfl ?_
  refine lv_bipush (v := (-20)) hx hb dX6_land_51 (by decide) ?_
  refine lv_iload_n hx hb dX6_land_53 rfl (lv_at hl 0 rfl) ?_
  refine lv_isub hx hb dX6_land_54 ?_
  refine gx_cst (v := (-20)) (by decide) ?_
  exact gx_retI C (u := ()) gx_nil gx_noneD hS (rfl) dX6_land_55
set_option maxHeartbeats 4000000 in
set_option maxRecDepth 100000 in
theorem x_roadOf (l : Launch) (D : va_G) (k : Nat → ClassId) (ad : Nat → Nat) (av : Int32) (bv : Int32) (sz : Nat) : Met l yX6_roadOf (.code yX6_roadOf cX6_roadOf 3 (some .int) :: gx_T) ({ frames := 2, cells := 0, slots := 0, locals := 43 }) (gx_Pre D k [.ref (ad 0), .int av, .int bv] ([((ad 0), .inr (4, [.ref (ad 1), .ref (ad 2), .ref (ad 3), .ref (ad 4), .ref (ad 5), .ref (ad 6), .ref (ad 7), .ref (ad 8), .ref (ad 9), .int 0])), ((ad 1), .inr (0, [.ref (ad 10), .ref (ad 11), .ref (ad 12), .ref (ad 13), .ref (ad 14), .ref (ad 15), .ref (ad 16), .ref (ad 17), .ref (ad 18), .int 0, .int 0, .int 0, .int 0, .int 1, .int 0, .int 0, .int 0])), ((ad 9), .inl (k 0, 5, .inl (fun _ => 0)))]) sz) (gx_Qi D (fun (r : Int32) (u : Unit) => r = -2) (fun (u : Unit) => ([] : va_W)) (va_A ([((ad 0), .inr (4, [.ref (ad 1), .ref (ad 2), .ref (ad 3), .ref (ad 4), .ref (ad 5), .ref (ad 6), .ref (ad 7), .ref (ad 8), .ref (ad 9), .int 0])), ((ad 1), .inr (0, [.ref (ad 10), .ref (ad 11), .ref (ad 12), .ref (ad 13), .ref (ad 14), .ref (ad 15), .ref (ad 16), .ref (ad 17), .ref (ad 18), .int 0, .int 0, .int 0, .int 0, .int 1, .int 0, .int 0, .int 0])), ((ad 9), .inl (k 0, 5, .inl (fun _ => 0)))]) sz)) 0 0 (va_A ([((ad 0), .inr (4, [.ref (ad 1), .ref (ad 2), .ref (ad 3), .ref (ad 4), .ref (ad 5), .ref (ad 6), .ref (ad 7), .ref (ad 8), .ref (ad 9), .int 0])), ((ad 1), .inr (0, [.ref (ad 10), .ref (ad 11), .ref (ad 12), .ref (ad 13), .ref (ad 14), .ref (ad 15), .ref (ad 16), .ref (ad 17), .ref (ad 18), .int 0, .int 0, .int 0, .int 0, .int 1, .int 0, .int 0, .int 0])), ((ad 9), .inl (k 0, 5, .inl (fun _ => 0)))]) sz) := by
  refine gx_metE (Qc := fun A => gx_Qi D (fun (r : Int32) (u : Unit) => r = -2) (fun (u : Unit) => ([] : va_W)) A) (y := yX6_roadOf) (cc := cX6_roadOf) (n := 3) (ret := (some .int)) (av := [.ref (ad 0), .int av, .int bv]) (by decide) (Nat.le_of_ble_eq_true rfl) ?_
  intro p e s m below meth c A ls C hA hP hD hK hS hl
  obtain ⟨hx, hb, hr, hml, hown, hT, hlk, hin⟩ := id C
  have hown : s.vm.findClass RX6 = some m.cls := hown
  have hl : lv_has ls 3 [(0, .ref (ad 0)), (1, .int av), (2, .int bv)] := hl
  refine lv_aload_n hx hb dX6_roadOf_0 rfl (lv_at hl 0 rfl) ?_
  refine lv_iload_n hx hb dX6_roadOf_1 rfl (lv_at hl 1 rfl) ?_
  refine gx_pi hP hS (gx_runV (na := 1) (As := [.int av]) (rest := []) (ci := 4) C hl.1 hK (gx_subP (wc := ([((ad 0), .inr (4, [.ref (ad 1), .ref (ad 2), .ref (ad 3), .ref (ad 4), .ref (ad 5), .ref (ad 6), .ref (ad 7), .ref (ad 8), .ref (ad 9), .int 0])), ((ad 1), .inr (0, [.ref (ad 10), .ref (ad 11), .ref (ad 12), .ref (ad 13), .ref (ad 14), .ref (ad 15), .ref (ad 16), .ref (ad 17), .ref (ad 18), .int 0, .int 0, .int 0, .int 0, .int 1, .int 0, .int 0, .int 0]))] : va_W)) hP [0, 1] rfl) ((hD.sub (ws' := ([((ad 0), .inr (4, [.ref (ad 1), .ref (ad 2), .ref (ad 3), .ref (ad 4), .ref (ad 5), .ref (ad 6), .ref (ad 7), .ref (ad 8), .ref (ad 9), .int 0])), ((ad 1), .inr (0, [.ref (ad 10), .ref (ad 11), .ref (ad 12), .ref (ad 13), .ref (ad 14), .ref (ad 15), .ref (ad 16), .ref (ad 17), .ref (ad 18), .int 0, .int 0, .int 0, .int 0, .int 1, .int 0, .int 0, .int 0]))] : va_W)) [0, 1] (by decide) rfl).weaken (fun _ _ _ _ => trivial)) (k_isRoad l D k ad av _) gV_RX6_143 (by decide +kernel) rfl rfl ⟨Nat.le_of_ble_eq_true rfl, Nat.le_of_ble_eq_true rfl⟩ rfl rfl rfl rfl (Nat.le_of_ble_eq_true rfl) dX6_roadOf_2 ⟨Nat.le_of_ble_eq_true rfl, Nat.le_of_ble_eq_true rfl⟩) (fun r_2 H locs c_1 hP hS => ?_)
  have c_1 : r_2 = 0 := c_1
  subst c_1
  refine lv_if_ne (tgt := 15) hx hb dX6_roadOf_5 (by decide) (fun c_3 => absurd (by decide) c_3) (fun c_3 => ?_)
  refine lv_aload_n hx hb dX6_roadOf_8 rfl (lv_at hl 0 rfl) ?_
  refine lv_bipush (v := (-2)) hx hb dX6_roadOf_9 (by decide) ?_
  refine gx_ei (wc := ([((ad 0), .inr (4, [.ref (ad 1), .ref (ad 2), .ref (ad 3), .ref (ad 4), .ref (ad 5), .ref (ad 6), .ref (ad 7), .ref (ad 8), .ref (ad 9), .int 0])), ((ad 9), .inl (k 0, 5, .inl (fun _ => 0)))] : va_W)) (wr := [((ad 1), .inr (0, [.ref (ad 10), .ref (ad 11), .ref (ad 12), .ref (ad 13), .ref (ad 14), .ref (ad 15), .ref (ad 16), .ref (ad 17), .ref (ad 18), .int 0, .int 0, .int 0, .int 0, .int 1, .int 0, .int 0, .int 0]))]) (isC := [0, 2]) (isR := [1]) hP hD hS hA rfl rfl (by decide) (by decide) (gx_runV (na := 1) (As := [.int (-2)]) (rest := []) (ci := 4) C hl.1 hK (gx_subP (wc := ([((ad 0), .inr (4, [.ref (ad 1), .ref (ad 2), .ref (ad 3), .ref (ad 4), .ref (ad 5), .ref (ad 6), .ref (ad 7), .ref (ad 8), .ref (ad 9), .int 0])), ((ad 9), .inl (k 0, 5, .inl (fun _ => 0)))] : va_W)) hP [0, 2] rfl) ((hD.sub (ws' := ([((ad 0), .inr (4, [.ref (ad 1), .ref (ad 2), .ref (ad 3), .ref (ad 4), .ref (ad 5), .ref (ad 6), .ref (ad 7), .ref (ad 8), .ref (ad 9), .int 0])), ((ad 9), .inl (k 0, 5, .inl (fun _ => 0)))] : va_W)) [0, 2] (by decide) rfl).weaken (fun _ _ _ _ => trivial)) (k_refuse2 l D k ad _) gV_RX6_61 (by decide +kernel) rfl rfl ⟨Nat.le_of_ble_eq_true rfl, Nat.le_of_ble_eq_true rfl⟩ rfl rfl rfl rfl (Nat.le_of_ble_eq_true rfl) dX6_roadOf_11 ⟨Nat.le_of_ble_eq_true rfl, Nat.le_of_ble_eq_true rfl⟩) (fun r_6 u_4 H locs h_5 hP hD hS => ?_)
  have h_5 : r_6 = -2 := h_5
  have hP : va_P D gx_cl [((ad 1), .inr (0, [.ref (ad 10), .ref (ad 11), .ref (ad 12), .ref (ad 13), .ref (ad 14), .ref (ad 15), .ref (ad 16), .ref (ad 17), .ref (ad 18), .int 0, .int 0, .int 0, .int 0, .int 1, .int 0, .int 0, .int 0]))] H := hP
  have hD : va_D A [((ad 1), .inr (0, [.ref (ad 10), .ref (ad 11), .ref (ad 12), .ref (ad 13), .ref (ad 14), .ref (ad 15), .ref (ad 16), .ref (ad 17), .ref (ad 18), .int 0, .int 0, .int 0, .int 0, .int 1, .int 0, .int 0, .int 0]))] := hD
  have eh_5 := h_5
  subst eh_5
  exact gx_retI C (u := ()) gx_nil gx_noneD hS (rfl) dX6_roadOf_14
set_option maxHeartbeats 4000000 in
set_option maxRecDepth 100000 in
theorem x_oneOf (l : Launch) (D : va_G) (k : Nat → ClassId) (ad : Nat → Nat) (av : Int32) (bv : Int32) (sz : Nat) : Met l yX6_oneOf (.code yX6_oneOf cX6_oneOf 3 (some .int) :: gx_T) ({ frames := 2, cells := 0, slots := 0, locals := 43 }) (gx_Pre D k [.ref (ad 0), .int av, .int bv] ([((ad 0), .inr (4, [.ref (ad 1), .ref (ad 2), .ref (ad 3), .ref (ad 4), .ref (ad 5), .ref (ad 6), .ref (ad 7), .ref (ad 8), .ref (ad 9), .int 0])), ((ad 1), .inr (0, [.ref (ad 10), .ref (ad 11), .ref (ad 12), .ref (ad 13), .ref (ad 14), .ref (ad 15), .ref (ad 16), .ref (ad 17), .ref (ad 18), .int 0, .int 0, .int 0, .int 0, .int 1, .int 0, .int 0, .int 0])), ((ad 9), .inl (k 0, 5, .inl (fun _ => 0)))]) sz) (gx_Qi D (fun (r : Int32) (u : Unit) => r = -2) (fun (u : Unit) => ([] : va_W)) (va_A ([((ad 0), .inr (4, [.ref (ad 1), .ref (ad 2), .ref (ad 3), .ref (ad 4), .ref (ad 5), .ref (ad 6), .ref (ad 7), .ref (ad 8), .ref (ad 9), .int 0])), ((ad 1), .inr (0, [.ref (ad 10), .ref (ad 11), .ref (ad 12), .ref (ad 13), .ref (ad 14), .ref (ad 15), .ref (ad 16), .ref (ad 17), .ref (ad 18), .int 0, .int 0, .int 0, .int 0, .int 1, .int 0, .int 0, .int 0])), ((ad 9), .inl (k 0, 5, .inl (fun _ => 0)))]) sz)) 0 0 (va_A ([((ad 0), .inr (4, [.ref (ad 1), .ref (ad 2), .ref (ad 3), .ref (ad 4), .ref (ad 5), .ref (ad 6), .ref (ad 7), .ref (ad 8), .ref (ad 9), .int 0])), ((ad 1), .inr (0, [.ref (ad 10), .ref (ad 11), .ref (ad 12), .ref (ad 13), .ref (ad 14), .ref (ad 15), .ref (ad 16), .ref (ad 17), .ref (ad 18), .int 0, .int 0, .int 0, .int 0, .int 1, .int 0, .int 0, .int 0])), ((ad 9), .inl (k 0, 5, .inl (fun _ => 0)))]) sz) := by
  refine gx_metE (Qc := fun A => gx_Qi D (fun (r : Int32) (u : Unit) => r = -2) (fun (u : Unit) => ([] : va_W)) A) (y := yX6_oneOf) (cc := cX6_oneOf) (n := 3) (ret := (some .int)) (av := [.ref (ad 0), .int av, .int bv]) (by decide) (Nat.le_of_ble_eq_true rfl) ?_
  intro p e s m below meth c A ls C hA hP hD hK hS hl
  obtain ⟨hx, hb, hr, hml, hown, hT, hlk, hin⟩ := id C
  have hown : s.vm.findClass RX6 = some m.cls := hown
  have hl : lv_has ls 3 [(0, .ref (ad 0)), (1, .int av), (2, .int bv)] := hl
  refine lv_aload_n hx hb dX6_oneOf_0 rfl (lv_at hl 0 rfl) ?_
  refine lv_iload_n hx hb dX6_oneOf_1 rfl (lv_at hl 1 rfl) ?_
  refine gx_pi hP hS (gx_runV (na := 1) (As := [.int av]) (rest := []) (ci := 4) C hl.1 hK (gx_subP (wc := ([((ad 0), .inr (4, [.ref (ad 1), .ref (ad 2), .ref (ad 3), .ref (ad 4), .ref (ad 5), .ref (ad 6), .ref (ad 7), .ref (ad 8), .ref (ad 9), .int 0])), ((ad 1), .inr (0, [.ref (ad 10), .ref (ad 11), .ref (ad 12), .ref (ad 13), .ref (ad 14), .ref (ad 15), .ref (ad 16), .ref (ad 17), .ref (ad 18), .int 0, .int 0, .int 0, .int 0, .int 1, .int 0, .int 0, .int 0]))] : va_W)) hP [0, 1] rfl) ((hD.sub (ws' := ([((ad 0), .inr (4, [.ref (ad 1), .ref (ad 2), .ref (ad 3), .ref (ad 4), .ref (ad 5), .ref (ad 6), .ref (ad 7), .ref (ad 8), .ref (ad 9), .int 0])), ((ad 1), .inr (0, [.ref (ad 10), .ref (ad 11), .ref (ad 12), .ref (ad 13), .ref (ad 14), .ref (ad 15), .ref (ad 16), .ref (ad 17), .ref (ad 18), .int 0, .int 0, .int 0, .int 0, .int 1, .int 0, .int 0, .int 0]))] : va_W)) [0, 1] (by decide) rfl).weaken (fun _ _ _ _ => trivial)) (k_isOne l D k ad av _) gV_RX6_182 (by decide +kernel) rfl rfl ⟨Nat.le_of_ble_eq_true rfl, Nat.le_of_ble_eq_true rfl⟩ rfl rfl rfl rfl (Nat.le_of_ble_eq_true rfl) dX6_oneOf_2 ⟨Nat.le_of_ble_eq_true rfl, Nat.le_of_ble_eq_true rfl⟩) (fun r_2 H locs c_1 hP hS => ?_)
  have c_1 : r_2 = 0 := c_1
  subst c_1
  refine lv_if_ne (tgt := 15) hx hb dX6_oneOf_5 (by decide) (fun c_3 => absurd (by decide) c_3) (fun c_3 => ?_)
  refine lv_aload_n hx hb dX6_oneOf_8 rfl (lv_at hl 0 rfl) ?_
  refine lv_bipush (v := (-2)) hx hb dX6_oneOf_9 (by decide) ?_
  refine gx_ei (wc := ([((ad 0), .inr (4, [.ref (ad 1), .ref (ad 2), .ref (ad 3), .ref (ad 4), .ref (ad 5), .ref (ad 6), .ref (ad 7), .ref (ad 8), .ref (ad 9), .int 0])), ((ad 9), .inl (k 0, 5, .inl (fun _ => 0)))] : va_W)) (wr := [((ad 1), .inr (0, [.ref (ad 10), .ref (ad 11), .ref (ad 12), .ref (ad 13), .ref (ad 14), .ref (ad 15), .ref (ad 16), .ref (ad 17), .ref (ad 18), .int 0, .int 0, .int 0, .int 0, .int 1, .int 0, .int 0, .int 0]))]) (isC := [0, 2]) (isR := [1]) hP hD hS hA rfl rfl (by decide) (by decide) (gx_runV (na := 1) (As := [.int (-2)]) (rest := []) (ci := 4) C hl.1 hK (gx_subP (wc := ([((ad 0), .inr (4, [.ref (ad 1), .ref (ad 2), .ref (ad 3), .ref (ad 4), .ref (ad 5), .ref (ad 6), .ref (ad 7), .ref (ad 8), .ref (ad 9), .int 0])), ((ad 9), .inl (k 0, 5, .inl (fun _ => 0)))] : va_W)) hP [0, 2] rfl) ((hD.sub (ws' := ([((ad 0), .inr (4, [.ref (ad 1), .ref (ad 2), .ref (ad 3), .ref (ad 4), .ref (ad 5), .ref (ad 6), .ref (ad 7), .ref (ad 8), .ref (ad 9), .int 0])), ((ad 9), .inl (k 0, 5, .inl (fun _ => 0)))] : va_W)) [0, 2] (by decide) rfl).weaken (fun _ _ _ _ => trivial)) (k_refuse2 l D k ad _) gV_RX6_61 (by decide +kernel) rfl rfl ⟨Nat.le_of_ble_eq_true rfl, Nat.le_of_ble_eq_true rfl⟩ rfl rfl rfl rfl (Nat.le_of_ble_eq_true rfl) dX6_oneOf_11 ⟨Nat.le_of_ble_eq_true rfl, Nat.le_of_ble_eq_true rfl⟩) (fun r_6 u_4 H locs h_5 hP hD hS => ?_)
  have h_5 : r_6 = -2 := h_5
  have hP : va_P D gx_cl [((ad 1), .inr (0, [.ref (ad 10), .ref (ad 11), .ref (ad 12), .ref (ad 13), .ref (ad 14), .ref (ad 15), .ref (ad 16), .ref (ad 17), .ref (ad 18), .int 0, .int 0, .int 0, .int 0, .int 1, .int 0, .int 0, .int 0]))] H := hP
  have hD : va_D A [((ad 1), .inr (0, [.ref (ad 10), .ref (ad 11), .ref (ad 12), .ref (ad 13), .ref (ad 14), .ref (ad 15), .ref (ad 16), .ref (ad 17), .ref (ad 18), .int 0, .int 0, .int 0, .int 0, .int 1, .int 0, .int 0, .int 0]))] := hD
  have eh_5 := h_5
  subst eh_5
  exact gx_retI C (u := ()) gx_nil gx_noneD hS (rfl) dX6_oneOf_14
set_option maxHeartbeats 4000000 in
set_option maxRecDepth 100000 in
theorem x_when (l : Launch) (D : va_G) (k : Nat → ClassId) (ad : Nat → Nat) (av : Int32) (bv : Int32) (sz : Nat) : Met l yX6_when (.code yX6_when cX6_when 3 (some .int) :: gx_T) ({ frames := 2, cells := 0, slots := 0, locals := 43 }) (gx_Pre D k [.ref (ad 0), .int av, .int bv] ([((ad 0), .inr (4, [.ref (ad 1), .ref (ad 2), .ref (ad 3), .ref (ad 4), .ref (ad 5), .ref (ad 6), .ref (ad 7), .ref (ad 8), .ref (ad 9), .int 0])), ((ad 1), .inr (0, [.ref (ad 10), .ref (ad 11), .ref (ad 12), .ref (ad 13), .ref (ad 14), .ref (ad 15), .ref (ad 16), .ref (ad 17), .ref (ad 18), .int 0, .int 0, .int 0, .int 0, .int 1, .int 0, .int 0, .int 0])), ((ad 9), .inl (k 0, 5, .inl (fun _ => 0)))]) sz) (gx_Qi D (fun (r : Int32) (u : Unit) => r = -2) (fun (u : Unit) => ([] : va_W)) (va_A ([((ad 0), .inr (4, [.ref (ad 1), .ref (ad 2), .ref (ad 3), .ref (ad 4), .ref (ad 5), .ref (ad 6), .ref (ad 7), .ref (ad 8), .ref (ad 9), .int 0])), ((ad 1), .inr (0, [.ref (ad 10), .ref (ad 11), .ref (ad 12), .ref (ad 13), .ref (ad 14), .ref (ad 15), .ref (ad 16), .ref (ad 17), .ref (ad 18), .int 0, .int 0, .int 0, .int 0, .int 1, .int 0, .int 0, .int 0])), ((ad 9), .inl (k 0, 5, .inl (fun _ => 0)))]) sz)) 0 0 (va_A ([((ad 0), .inr (4, [.ref (ad 1), .ref (ad 2), .ref (ad 3), .ref (ad 4), .ref (ad 5), .ref (ad 6), .ref (ad 7), .ref (ad 8), .ref (ad 9), .int 0])), ((ad 1), .inr (0, [.ref (ad 10), .ref (ad 11), .ref (ad 12), .ref (ad 13), .ref (ad 14), .ref (ad 15), .ref (ad 16), .ref (ad 17), .ref (ad 18), .int 0, .int 0, .int 0, .int 0, .int 1, .int 0, .int 0, .int 0])), ((ad 9), .inl (k 0, 5, .inl (fun _ => 0)))]) sz) := by
  refine gx_metE (Qc := fun A => gx_Qi D (fun (r : Int32) (u : Unit) => r = -2) (fun (u : Unit) => ([] : va_W)) A) (y := yX6_when) (cc := cX6_when) (n := 3) (ret := (some .int)) (av := [.ref (ad 0), .int av, .int bv]) (by decide) (Nat.le_of_ble_eq_true rfl) ?_
  intro p e s m below meth c A ls C hA hP hD hK hS hl
  obtain ⟨hx, hb, hr, hml, hown, hT, hlk, hin⟩ := id C
  have hown : s.vm.findClass RX6 = some m.cls := hown
  have hl : lv_has ls 3 [(0, .ref (ad 0)), (1, .int av), (2, .int bv)] := hl
  refine lv_aload_n hx hb dX6_when_0 rfl (lv_at hl 0 rfl) ?_
  refine lv_iload_n hx hb dX6_when_1 rfl (lv_at hl 1 rfl) ?_
  refine gx_pi hP hS (gx_runV (na := 1) (As := [.int av]) (rest := []) (ci := 4) C hl.1 hK (gx_subP (wc := ([((ad 0), .inr (4, [.ref (ad 1), .ref (ad 2), .ref (ad 3), .ref (ad 4), .ref (ad 5), .ref (ad 6), .ref (ad 7), .ref (ad 8), .ref (ad 9), .int 0])), ((ad 1), .inr (0, [.ref (ad 10), .ref (ad 11), .ref (ad 12), .ref (ad 13), .ref (ad 14), .ref (ad 15), .ref (ad 16), .ref (ad 17), .ref (ad 18), .int 0, .int 0, .int 0, .int 0, .int 1, .int 0, .int 0, .int 0]))] : va_W)) hP [0, 1] rfl) ((hD.sub (ws' := ([((ad 0), .inr (4, [.ref (ad 1), .ref (ad 2), .ref (ad 3), .ref (ad 4), .ref (ad 5), .ref (ad 6), .ref (ad 7), .ref (ad 8), .ref (ad 9), .int 0])), ((ad 1), .inr (0, [.ref (ad 10), .ref (ad 11), .ref (ad 12), .ref (ad 13), .ref (ad 14), .ref (ad 15), .ref (ad 16), .ref (ad 17), .ref (ad 18), .int 0, .int 0, .int 0, .int 0, .int 1, .int 0, .int 0, .int 0]))] : va_W)) [0, 1] (by decide) rfl).weaken (fun _ _ _ _ => trivial)) (k_isOne l D k ad av _) gV_RX6_182 (by decide +kernel) rfl rfl ⟨Nat.le_of_ble_eq_true rfl, Nat.le_of_ble_eq_true rfl⟩ rfl rfl rfl rfl (Nat.le_of_ble_eq_true rfl) dX6_when_2 ⟨Nat.le_of_ble_eq_true rfl, Nat.le_of_ble_eq_true rfl⟩) (fun r_2 H locs c_1 hP hS => ?_)
  have c_1 : r_2 = 0 := c_1
  subst c_1
  refine lv_if_eq (tgt := 28) hx hb dX6_when_5 (by decide) (fun c_3 => ?_) (fun c_3 => absurd (by decide) c_3)
  refine lv_aload_n hx hb dX6_when_28 rfl (lv_at hl 0 rfl) ?_
  refine lv_bipush (v := (-2)) hx hb dX6_when_29 (by decide) ?_
  refine gx_ei (wc := ([((ad 0), .inr (4, [.ref (ad 1), .ref (ad 2), .ref (ad 3), .ref (ad 4), .ref (ad 5), .ref (ad 6), .ref (ad 7), .ref (ad 8), .ref (ad 9), .int 0])), ((ad 9), .inl (k 0, 5, .inl (fun _ => 0)))] : va_W)) (wr := [((ad 1), .inr (0, [.ref (ad 10), .ref (ad 11), .ref (ad 12), .ref (ad 13), .ref (ad 14), .ref (ad 15), .ref (ad 16), .ref (ad 17), .ref (ad 18), .int 0, .int 0, .int 0, .int 0, .int 1, .int 0, .int 0, .int 0]))]) (isC := [0, 2]) (isR := [1]) hP hD hS hA rfl rfl (by decide) (by decide) (gx_runV (na := 1) (As := [.int (-2)]) (rest := []) (ci := 4) C hl.1 hK (gx_subP (wc := ([((ad 0), .inr (4, [.ref (ad 1), .ref (ad 2), .ref (ad 3), .ref (ad 4), .ref (ad 5), .ref (ad 6), .ref (ad 7), .ref (ad 8), .ref (ad 9), .int 0])), ((ad 9), .inl (k 0, 5, .inl (fun _ => 0)))] : va_W)) hP [0, 2] rfl) ((hD.sub (ws' := ([((ad 0), .inr (4, [.ref (ad 1), .ref (ad 2), .ref (ad 3), .ref (ad 4), .ref (ad 5), .ref (ad 6), .ref (ad 7), .ref (ad 8), .ref (ad 9), .int 0])), ((ad 9), .inl (k 0, 5, .inl (fun _ => 0)))] : va_W)) [0, 2] (by decide) rfl).weaken (fun _ _ _ _ => trivial)) (k_refuse2 l D k ad _) gV_RX6_61 (by decide +kernel) rfl rfl ⟨Nat.le_of_ble_eq_true rfl, Nat.le_of_ble_eq_true rfl⟩ rfl rfl rfl rfl (Nat.le_of_ble_eq_true rfl) dX6_when_31 ⟨Nat.le_of_ble_eq_true rfl, Nat.le_of_ble_eq_true rfl⟩) (fun r_6 u_4 H locs h_5 hP hD hS => ?_)
  have h_5 : r_6 = -2 := h_5
  have hP : va_P D gx_cl [((ad 1), .inr (0, [.ref (ad 10), .ref (ad 11), .ref (ad 12), .ref (ad 13), .ref (ad 14), .ref (ad 15), .ref (ad 16), .ref (ad 17), .ref (ad 18), .int 0, .int 0, .int 0, .int 0, .int 1, .int 0, .int 0, .int 0]))] H := hP
  have hD : va_D A [((ad 1), .inr (0, [.ref (ad 10), .ref (ad 11), .ref (ad 12), .ref (ad 13), .ref (ad 14), .ref (ad 15), .ref (ad 16), .ref (ad 17), .ref (ad 18), .int 0, .int 0, .int 0, .int 0, .int 1, .int 0, .int 0, .int 0]))] := hD
  have eh_5 := h_5
  subst eh_5
  exact gx_retI C (u := ()) gx_nil gx_noneD hS (rfl) dX6_when_34
set_option maxHeartbeats 4000000 in
set_option maxRecDepth 100000 in
theorem x_left (l : Launch) (D : va_G) (k : Nat → ClassId) (ad : Nat → Nat) (av : Int32) (sz : Nat) : Met l yX6_left (.code yX6_left cX6_left 2 (some .int) :: gx_T) ({ frames := 2, cells := 0, slots := 0, locals := 43 }) (gx_Pre D k [.ref (ad 0), .int av] ([((ad 0), .inr (4, [.ref (ad 1), .ref (ad 2), .ref (ad 3), .ref (ad 4), .ref (ad 5), .ref (ad 6), .ref (ad 7), .ref (ad 8), .ref (ad 9), .int 0])), ((ad 1), .inr (0, [.ref (ad 10), .ref (ad 11), .ref (ad 12), .ref (ad 13), .ref (ad 14), .ref (ad 15), .ref (ad 16), .ref (ad 17), .ref (ad 18), .int 0, .int 0, .int 0, .int 0, .int 1, .int 0, .int 0, .int 0])), ((ad 9), .inl (k 0, 5, .inl (fun _ => 0)))]) sz) (gx_Qi D (fun (r : Int32) (u : Unit) => r = -2) (fun (u : Unit) => ([] : va_W)) (va_A ([((ad 0), .inr (4, [.ref (ad 1), .ref (ad 2), .ref (ad 3), .ref (ad 4), .ref (ad 5), .ref (ad 6), .ref (ad 7), .ref (ad 8), .ref (ad 9), .int 0])), ((ad 1), .inr (0, [.ref (ad 10), .ref (ad 11), .ref (ad 12), .ref (ad 13), .ref (ad 14), .ref (ad 15), .ref (ad 16), .ref (ad 17), .ref (ad 18), .int 0, .int 0, .int 0, .int 0, .int 1, .int 0, .int 0, .int 0])), ((ad 9), .inl (k 0, 5, .inl (fun _ => 0)))]) sz)) 0 0 (va_A ([((ad 0), .inr (4, [.ref (ad 1), .ref (ad 2), .ref (ad 3), .ref (ad 4), .ref (ad 5), .ref (ad 6), .ref (ad 7), .ref (ad 8), .ref (ad 9), .int 0])), ((ad 1), .inr (0, [.ref (ad 10), .ref (ad 11), .ref (ad 12), .ref (ad 13), .ref (ad 14), .ref (ad 15), .ref (ad 16), .ref (ad 17), .ref (ad 18), .int 0, .int 0, .int 0, .int 0, .int 1, .int 0, .int 0, .int 0])), ((ad 9), .inl (k 0, 5, .inl (fun _ => 0)))]) sz) := by
  refine gx_metE (Qc := fun A => gx_Qi D (fun (r : Int32) (u : Unit) => r = -2) (fun (u : Unit) => ([] : va_W)) A) (y := yX6_left) (cc := cX6_left) (n := 2) (ret := (some .int)) (av := [.ref (ad 0), .int av]) (by decide) (Nat.le_of_ble_eq_true rfl) ?_
  intro p e s m below meth c A ls C hA hP hD hK hS hl
  obtain ⟨hx, hb, hr, hml, hown, hT, hlk, hin⟩ := id C
  have hown : s.vm.findClass RX6 = some m.cls := hown
  have hl : lv_has ls 2 [(0, .ref (ad 0)), (1, .int av)] := hl
  refine lv_aload_n hx hb dX6_left_0 rfl (lv_at hl 0 rfl) ?_
  refine lv_iload_n hx hb dX6_left_1 rfl (lv_at hl 1 rfl) ?_
  refine gx_pi hP hS (gx_runV (na := 1) (As := [.int av]) (rest := []) (ci := 4) C hl.1 hK (gx_subP (wc := ([((ad 0), .inr (4, [.ref (ad 1), .ref (ad 2), .ref (ad 3), .ref (ad 4), .ref (ad 5), .ref (ad 6), .ref (ad 7), .ref (ad 8), .ref (ad 9), .int 0])), ((ad 1), .inr (0, [.ref (ad 10), .ref (ad 11), .ref (ad 12), .ref (ad 13), .ref (ad 14), .ref (ad 15), .ref (ad 16), .ref (ad 17), .ref (ad 18), .int 0, .int 0, .int 0, .int 0, .int 1, .int 0, .int 0, .int 0]))] : va_W)) hP [0, 1] rfl) ((hD.sub (ws' := ([((ad 0), .inr (4, [.ref (ad 1), .ref (ad 2), .ref (ad 3), .ref (ad 4), .ref (ad 5), .ref (ad 6), .ref (ad 7), .ref (ad 8), .ref (ad 9), .int 0])), ((ad 1), .inr (0, [.ref (ad 10), .ref (ad 11), .ref (ad 12), .ref (ad 13), .ref (ad 14), .ref (ad 15), .ref (ad 16), .ref (ad 17), .ref (ad 18), .int 0, .int 0, .int 0, .int 0, .int 1, .int 0, .int 0, .int 0]))] : va_W)) [0, 1] (by decide) rfl).weaken (fun _ _ _ _ => trivial)) (k_isOne l D k ad av _) gV_RX6_182 (by decide +kernel) rfl rfl ⟨Nat.le_of_ble_eq_true rfl, Nat.le_of_ble_eq_true rfl⟩ rfl rfl rfl rfl (Nat.le_of_ble_eq_true rfl) dX6_left_2 ⟨Nat.le_of_ble_eq_true rfl, Nat.le_of_ble_eq_true rfl⟩) (fun r_2 H locs c_1 hP hS => ?_)
  have c_1 : r_2 = 0 := c_1
  subst c_1
  refine lv_if_eq (tgt := 19) hx hb dX6_left_5 (by decide) (fun c_3 => ?_) (fun c_3 => absurd (by decide) c_3)
  refine lv_aload_n hx hb dX6_left_19 rfl (lv_at hl 0 rfl) ?_
  refine lv_bipush (v := (-2)) hx hb dX6_left_20 (by decide) ?_
  refine gx_ei (wc := ([((ad 0), .inr (4, [.ref (ad 1), .ref (ad 2), .ref (ad 3), .ref (ad 4), .ref (ad 5), .ref (ad 6), .ref (ad 7), .ref (ad 8), .ref (ad 9), .int 0])), ((ad 9), .inl (k 0, 5, .inl (fun _ => 0)))] : va_W)) (wr := [((ad 1), .inr (0, [.ref (ad 10), .ref (ad 11), .ref (ad 12), .ref (ad 13), .ref (ad 14), .ref (ad 15), .ref (ad 16), .ref (ad 17), .ref (ad 18), .int 0, .int 0, .int 0, .int 0, .int 1, .int 0, .int 0, .int 0]))]) (isC := [0, 2]) (isR := [1]) hP hD hS hA rfl rfl (by decide) (by decide) (gx_runV (na := 1) (As := [.int (-2)]) (rest := []) (ci := 4) C hl.1 hK (gx_subP (wc := ([((ad 0), .inr (4, [.ref (ad 1), .ref (ad 2), .ref (ad 3), .ref (ad 4), .ref (ad 5), .ref (ad 6), .ref (ad 7), .ref (ad 8), .ref (ad 9), .int 0])), ((ad 9), .inl (k 0, 5, .inl (fun _ => 0)))] : va_W)) hP [0, 2] rfl) ((hD.sub (ws' := ([((ad 0), .inr (4, [.ref (ad 1), .ref (ad 2), .ref (ad 3), .ref (ad 4), .ref (ad 5), .ref (ad 6), .ref (ad 7), .ref (ad 8), .ref (ad 9), .int 0])), ((ad 9), .inl (k 0, 5, .inl (fun _ => 0)))] : va_W)) [0, 2] (by decide) rfl).weaken (fun _ _ _ _ => trivial)) (k_refuse2 l D k ad _) gV_RX6_61 (by decide +kernel) rfl rfl ⟨Nat.le_of_ble_eq_true rfl, Nat.le_of_ble_eq_true rfl⟩ rfl rfl rfl rfl (Nat.le_of_ble_eq_true rfl) dX6_left_22 ⟨Nat.le_of_ble_eq_true rfl, Nat.le_of_ble_eq_true rfl⟩) (fun r_6 u_4 H locs h_5 hP hD hS => ?_)
  have h_5 : r_6 = -2 := h_5
  have hP : va_P D gx_cl [((ad 1), .inr (0, [.ref (ad 10), .ref (ad 11), .ref (ad 12), .ref (ad 13), .ref (ad 14), .ref (ad 15), .ref (ad 16), .ref (ad 17), .ref (ad 18), .int 0, .int 0, .int 0, .int 0, .int 1, .int 0, .int 0, .int 0]))] H := hP
  have hD : va_D A [((ad 1), .inr (0, [.ref (ad 10), .ref (ad 11), .ref (ad 12), .ref (ad 13), .ref (ad 14), .ref (ad 15), .ref (ad 16), .ref (ad 17), .ref (ad 18), .int 0, .int 0, .int 0, .int 0, .int 1, .int 0, .int 0, .int 0]))] := hD
  have eh_5 := h_5
  subst eh_5
  exact gx_retI C (u := ()) gx_nil gx_noneD hS (rfl) dX6_left_25
set_option maxHeartbeats 4000000 in
set_option maxRecDepth 100000 in
theorem x_here (l : Launch) (D : va_G) (k : Nat → ClassId) (ad : Nat → Nat) (av : Int32) (sz : Nat) : Met l yX6_here (.code yX6_here cX6_here 2 (some .int) :: gx_T) ({ frames := 2, cells := 0, slots := 0, locals := 43 }) (gx_Pre D k [.ref (ad 0), .int av] ([((ad 0), .inr (4, [.ref (ad 1), .ref (ad 2), .ref (ad 3), .ref (ad 4), .ref (ad 5), .ref (ad 6), .ref (ad 7), .ref (ad 8), .ref (ad 9), .int 0])), ((ad 1), .inr (0, [.ref (ad 10), .ref (ad 11), .ref (ad 12), .ref (ad 13), .ref (ad 14), .ref (ad 15), .ref (ad 16), .ref (ad 17), .ref (ad 18), .int 0, .int 0, .int 0, .int 0, .int 1, .int 0, .int 0, .int 0])), ((ad 9), .inl (k 0, 5, .inl (fun _ => 0)))]) sz) (gx_Qi D (fun (r : Int32) (u : Unit) => r = -2) (fun (u : Unit) => ([] : va_W)) (va_A ([((ad 0), .inr (4, [.ref (ad 1), .ref (ad 2), .ref (ad 3), .ref (ad 4), .ref (ad 5), .ref (ad 6), .ref (ad 7), .ref (ad 8), .ref (ad 9), .int 0])), ((ad 1), .inr (0, [.ref (ad 10), .ref (ad 11), .ref (ad 12), .ref (ad 13), .ref (ad 14), .ref (ad 15), .ref (ad 16), .ref (ad 17), .ref (ad 18), .int 0, .int 0, .int 0, .int 0, .int 1, .int 0, .int 0, .int 0])), ((ad 9), .inl (k 0, 5, .inl (fun _ => 0)))]) sz)) 0 0 (va_A ([((ad 0), .inr (4, [.ref (ad 1), .ref (ad 2), .ref (ad 3), .ref (ad 4), .ref (ad 5), .ref (ad 6), .ref (ad 7), .ref (ad 8), .ref (ad 9), .int 0])), ((ad 1), .inr (0, [.ref (ad 10), .ref (ad 11), .ref (ad 12), .ref (ad 13), .ref (ad 14), .ref (ad 15), .ref (ad 16), .ref (ad 17), .ref (ad 18), .int 0, .int 0, .int 0, .int 0, .int 1, .int 0, .int 0, .int 0])), ((ad 9), .inl (k 0, 5, .inl (fun _ => 0)))]) sz) := by
  refine gx_metE (Qc := fun A => gx_Qi D (fun (r : Int32) (u : Unit) => r = -2) (fun (u : Unit) => ([] : va_W)) A) (y := yX6_here) (cc := cX6_here) (n := 2) (ret := (some .int)) (av := [.ref (ad 0), .int av]) (by decide) (Nat.le_of_ble_eq_true rfl) ?_
  intro p e s m below meth c A ls C hA hP hD hK hS hl
  obtain ⟨hx, hb, hr, hml, hown, hT, hlk, hin⟩ := id C
  have hown : s.vm.findClass RX6 = some m.cls := hown
  have hl : lv_has ls 2 [(0, .ref (ad 0)), (1, .int av)] := hl
  refine lv_aload_n hx hb dX6_here_0 rfl (lv_at hl 0 rfl) ?_
  refine lv_iload_n hx hb dX6_here_1 rfl (lv_at hl 1 rfl) ?_
  refine gx_pi hP hS (gx_runV (na := 1) (As := [.int av]) (rest := []) (ci := 4) C hl.1 hK (gx_subP (wc := ([((ad 0), .inr (4, [.ref (ad 1), .ref (ad 2), .ref (ad 3), .ref (ad 4), .ref (ad 5), .ref (ad 6), .ref (ad 7), .ref (ad 8), .ref (ad 9), .int 0])), ((ad 1), .inr (0, [.ref (ad 10), .ref (ad 11), .ref (ad 12), .ref (ad 13), .ref (ad 14), .ref (ad 15), .ref (ad 16), .ref (ad 17), .ref (ad 18), .int 0, .int 0, .int 0, .int 0, .int 1, .int 0, .int 0, .int 0]))] : va_W)) hP [0, 1] rfl) ((hD.sub (ws' := ([((ad 0), .inr (4, [.ref (ad 1), .ref (ad 2), .ref (ad 3), .ref (ad 4), .ref (ad 5), .ref (ad 6), .ref (ad 7), .ref (ad 8), .ref (ad 9), .int 0])), ((ad 1), .inr (0, [.ref (ad 10), .ref (ad 11), .ref (ad 12), .ref (ad 13), .ref (ad 14), .ref (ad 15), .ref (ad 16), .ref (ad 17), .ref (ad 18), .int 0, .int 0, .int 0, .int 0, .int 1, .int 0, .int 0, .int 0]))] : va_W)) [0, 1] (by decide) rfl).weaken (fun _ _ _ _ => trivial)) (k_isOne l D k ad av _) gV_RX6_182 (by decide +kernel) rfl rfl ⟨Nat.le_of_ble_eq_true rfl, Nat.le_of_ble_eq_true rfl⟩ rfl rfl rfl rfl (Nat.le_of_ble_eq_true rfl) dX6_here_2 ⟨Nat.le_of_ble_eq_true rfl, Nat.le_of_ble_eq_true rfl⟩) (fun r_2 H locs c_1 hP hS => ?_)
  have c_1 : r_2 = 0 := c_1
  subst c_1
  refine lv_if_eq (tgt := 19) hx hb dX6_here_5 (by decide) (fun c_3 => ?_) (fun c_3 => absurd (by decide) c_3)
  refine lv_aload_n hx hb dX6_here_19 rfl (lv_at hl 0 rfl) ?_
  refine lv_bipush (v := (-2)) hx hb dX6_here_20 (by decide) ?_
  refine gx_ei (wc := ([((ad 0), .inr (4, [.ref (ad 1), .ref (ad 2), .ref (ad 3), .ref (ad 4), .ref (ad 5), .ref (ad 6), .ref (ad 7), .ref (ad 8), .ref (ad 9), .int 0])), ((ad 9), .inl (k 0, 5, .inl (fun _ => 0)))] : va_W)) (wr := [((ad 1), .inr (0, [.ref (ad 10), .ref (ad 11), .ref (ad 12), .ref (ad 13), .ref (ad 14), .ref (ad 15), .ref (ad 16), .ref (ad 17), .ref (ad 18), .int 0, .int 0, .int 0, .int 0, .int 1, .int 0, .int 0, .int 0]))]) (isC := [0, 2]) (isR := [1]) hP hD hS hA rfl rfl (by decide) (by decide) (gx_runV (na := 1) (As := [.int (-2)]) (rest := []) (ci := 4) C hl.1 hK (gx_subP (wc := ([((ad 0), .inr (4, [.ref (ad 1), .ref (ad 2), .ref (ad 3), .ref (ad 4), .ref (ad 5), .ref (ad 6), .ref (ad 7), .ref (ad 8), .ref (ad 9), .int 0])), ((ad 9), .inl (k 0, 5, .inl (fun _ => 0)))] : va_W)) hP [0, 2] rfl) ((hD.sub (ws' := ([((ad 0), .inr (4, [.ref (ad 1), .ref (ad 2), .ref (ad 3), .ref (ad 4), .ref (ad 5), .ref (ad 6), .ref (ad 7), .ref (ad 8), .ref (ad 9), .int 0])), ((ad 9), .inl (k 0, 5, .inl (fun _ => 0)))] : va_W)) [0, 2] (by decide) rfl).weaken (fun _ _ _ _ => trivial)) (k_refuse2 l D k ad _) gV_RX6_61 (by decide +kernel) rfl rfl ⟨Nat.le_of_ble_eq_true rfl, Nat.le_of_ble_eq_true rfl⟩ rfl rfl rfl rfl (Nat.le_of_ble_eq_true rfl) dX6_here_22 ⟨Nat.le_of_ble_eq_true rfl, Nat.le_of_ble_eq_true rfl⟩) (fun r_6 u_4 H locs h_5 hP hD hS => ?_)
  have h_5 : r_6 = -2 := h_5
  have hP : va_P D gx_cl [((ad 1), .inr (0, [.ref (ad 10), .ref (ad 11), .ref (ad 12), .ref (ad 13), .ref (ad 14), .ref (ad 15), .ref (ad 16), .ref (ad 17), .ref (ad 18), .int 0, .int 0, .int 0, .int 0, .int 1, .int 0, .int 0, .int 0]))] H := hP
  have hD : va_D A [((ad 1), .inr (0, [.ref (ad 10), .ref (ad 11), .ref (ad 12), .ref (ad 13), .ref (ad 14), .ref (ad 15), .ref (ad 16), .ref (ad 17), .ref (ad 18), .int 0, .int 0, .int 0, .int 0, .int 1, .int 0, .int 0, .int 0]))] := hD
  have eh_5 := h_5
  subst eh_5
  exact gx_retI C (u := ()) gx_nil gx_noneD hS (rfl) dX6_here_25
set_option maxHeartbeats 4000000 in
set_option maxRecDepth 100000 in
theorem x_reach (l : Launch) (D : va_G) (k : Nat → ClassId) (ad : Nat → Nat) (av : Int32) (sz : Nat) : Met l yX6_reach (.code yX6_reach cX6_reach 2 (some .int) :: gx_T) ({ frames := 2, cells := 0, slots := 0, locals := 43 }) (gx_Pre D k [.ref (ad 0), .int av] ([((ad 0), .inr (4, [.ref (ad 1), .ref (ad 2), .ref (ad 3), .ref (ad 4), .ref (ad 5), .ref (ad 6), .ref (ad 7), .ref (ad 8), .ref (ad 9), .int 0])), ((ad 1), .inr (0, [.ref (ad 10), .ref (ad 11), .ref (ad 12), .ref (ad 13), .ref (ad 14), .ref (ad 15), .ref (ad 16), .ref (ad 17), .ref (ad 18), .int 0, .int 0, .int 0, .int 0, .int 1, .int 0, .int 0, .int 0])), ((ad 9), .inl (k 0, 5, .inl (fun _ => 0)))]) sz) (gx_Qi D (fun (r : Int32) (u : Unit) => r = -2) (fun (u : Unit) => ([] : va_W)) (va_A ([((ad 0), .inr (4, [.ref (ad 1), .ref (ad 2), .ref (ad 3), .ref (ad 4), .ref (ad 5), .ref (ad 6), .ref (ad 7), .ref (ad 8), .ref (ad 9), .int 0])), ((ad 1), .inr (0, [.ref (ad 10), .ref (ad 11), .ref (ad 12), .ref (ad 13), .ref (ad 14), .ref (ad 15), .ref (ad 16), .ref (ad 17), .ref (ad 18), .int 0, .int 0, .int 0, .int 0, .int 1, .int 0, .int 0, .int 0])), ((ad 9), .inl (k 0, 5, .inl (fun _ => 0)))]) sz)) 0 0 (va_A ([((ad 0), .inr (4, [.ref (ad 1), .ref (ad 2), .ref (ad 3), .ref (ad 4), .ref (ad 5), .ref (ad 6), .ref (ad 7), .ref (ad 8), .ref (ad 9), .int 0])), ((ad 1), .inr (0, [.ref (ad 10), .ref (ad 11), .ref (ad 12), .ref (ad 13), .ref (ad 14), .ref (ad 15), .ref (ad 16), .ref (ad 17), .ref (ad 18), .int 0, .int 0, .int 0, .int 0, .int 1, .int 0, .int 0, .int 0])), ((ad 9), .inl (k 0, 5, .inl (fun _ => 0)))]) sz) := by
  refine gx_metE (Qc := fun A => gx_Qi D (fun (r : Int32) (u : Unit) => r = -2) (fun (u : Unit) => ([] : va_W)) A) (y := yX6_reach) (cc := cX6_reach) (n := 2) (ret := (some .int)) (av := [.ref (ad 0), .int av]) (by decide) (Nat.le_of_ble_eq_true rfl) ?_
  intro p e s m below meth c A ls C hA hP hD hK hS hl
  obtain ⟨hx, hb, hr, hml, hown, hT, hlk, hin⟩ := id C
  have hown : s.vm.findClass RX6 = some m.cls := hown
  have hl : lv_has ls 2 [(0, .ref (ad 0)), (1, .int av)] := hl
  refine lv_aload_n hx hb dX6_reach_0 rfl (lv_at hl 0 rfl) ?_
  refine lv_iload_n hx hb dX6_reach_1 rfl (lv_at hl 1 rfl) ?_
  refine gx_pi hP hS (gx_runV (na := 1) (As := [.int av]) (rest := []) (ci := 4) C hl.1 hK (gx_subP (wc := ([((ad 0), .inr (4, [.ref (ad 1), .ref (ad 2), .ref (ad 3), .ref (ad 4), .ref (ad 5), .ref (ad 6), .ref (ad 7), .ref (ad 8), .ref (ad 9), .int 0])), ((ad 1), .inr (0, [.ref (ad 10), .ref (ad 11), .ref (ad 12), .ref (ad 13), .ref (ad 14), .ref (ad 15), .ref (ad 16), .ref (ad 17), .ref (ad 18), .int 0, .int 0, .int 0, .int 0, .int 1, .int 0, .int 0, .int 0]))] : va_W)) hP [0, 1] rfl) ((hD.sub (ws' := ([((ad 0), .inr (4, [.ref (ad 1), .ref (ad 2), .ref (ad 3), .ref (ad 4), .ref (ad 5), .ref (ad 6), .ref (ad 7), .ref (ad 8), .ref (ad 9), .int 0])), ((ad 1), .inr (0, [.ref (ad 10), .ref (ad 11), .ref (ad 12), .ref (ad 13), .ref (ad 14), .ref (ad 15), .ref (ad 16), .ref (ad 17), .ref (ad 18), .int 0, .int 0, .int 0, .int 0, .int 1, .int 0, .int 0, .int 0]))] : va_W)) [0, 1] (by decide) rfl).weaken (fun _ _ _ _ => trivial)) (k_isOne l D k ad av _) gV_RX6_182 (by decide +kernel) rfl rfl ⟨Nat.le_of_ble_eq_true rfl, Nat.le_of_ble_eq_true rfl⟩ rfl rfl rfl rfl (Nat.le_of_ble_eq_true rfl) dX6_reach_2 ⟨Nat.le_of_ble_eq_true rfl, Nat.le_of_ble_eq_true rfl⟩) (fun r_2 H locs c_1 hP hS => ?_)
  have c_1 : r_2 = 0 := c_1
  subst c_1
  refine lv_if_eq (tgt := 19) hx hb dX6_reach_5 (by decide) (fun c_3 => ?_) (fun c_3 => absurd (by decide) c_3)
  refine lv_aload_n hx hb dX6_reach_19 rfl (lv_at hl 0 rfl) ?_
  refine lv_bipush (v := (-2)) hx hb dX6_reach_20 (by decide) ?_
  refine gx_ei (wc := ([((ad 0), .inr (4, [.ref (ad 1), .ref (ad 2), .ref (ad 3), .ref (ad 4), .ref (ad 5), .ref (ad 6), .ref (ad 7), .ref (ad 8), .ref (ad 9), .int 0])), ((ad 9), .inl (k 0, 5, .inl (fun _ => 0)))] : va_W)) (wr := [((ad 1), .inr (0, [.ref (ad 10), .ref (ad 11), .ref (ad 12), .ref (ad 13), .ref (ad 14), .ref (ad 15), .ref (ad 16), .ref (ad 17), .ref (ad 18), .int 0, .int 0, .int 0, .int 0, .int 1, .int 0, .int 0, .int 0]))]) (isC := [0, 2]) (isR := [1]) hP hD hS hA rfl rfl (by decide) (by decide) (gx_runV (na := 1) (As := [.int (-2)]) (rest := []) (ci := 4) C hl.1 hK (gx_subP (wc := ([((ad 0), .inr (4, [.ref (ad 1), .ref (ad 2), .ref (ad 3), .ref (ad 4), .ref (ad 5), .ref (ad 6), .ref (ad 7), .ref (ad 8), .ref (ad 9), .int 0])), ((ad 9), .inl (k 0, 5, .inl (fun _ => 0)))] : va_W)) hP [0, 2] rfl) ((hD.sub (ws' := ([((ad 0), .inr (4, [.ref (ad 1), .ref (ad 2), .ref (ad 3), .ref (ad 4), .ref (ad 5), .ref (ad 6), .ref (ad 7), .ref (ad 8), .ref (ad 9), .int 0])), ((ad 9), .inl (k 0, 5, .inl (fun _ => 0)))] : va_W)) [0, 2] (by decide) rfl).weaken (fun _ _ _ _ => trivial)) (k_refuse2 l D k ad _) gV_RX6_61 (by decide +kernel) rfl rfl ⟨Nat.le_of_ble_eq_true rfl, Nat.le_of_ble_eq_true rfl⟩ rfl rfl rfl rfl (Nat.le_of_ble_eq_true rfl) dX6_reach_22 ⟨Nat.le_of_ble_eq_true rfl, Nat.le_of_ble_eq_true rfl⟩) (fun r_6 u_4 H locs h_5 hP hD hS => ?_)
  have h_5 : r_6 = -2 := h_5
  have hP : va_P D gx_cl [((ad 1), .inr (0, [.ref (ad 10), .ref (ad 11), .ref (ad 12), .ref (ad 13), .ref (ad 14), .ref (ad 15), .ref (ad 16), .ref (ad 17), .ref (ad 18), .int 0, .int 0, .int 0, .int 0, .int 1, .int 0, .int 0, .int 0]))] H := hP
  have hD : va_D A [((ad 1), .inr (0, [.ref (ad 10), .ref (ad 11), .ref (ad 12), .ref (ad 13), .ref (ad 14), .ref (ad 15), .ref (ad 16), .ref (ad 17), .ref (ad 18), .int 0, .int 0, .int 0, .int 0, .int 1, .int 0, .int 0, .int 0]))] := hD
  have eh_5 := h_5
  subst eh_5
  exact gx_retI C (u := ()) gx_nil gx_noneD hS (rfl) dX6_reach_25
set_option maxHeartbeats 4000000 in
set_option maxRecDepth 100000 in
theorem x_safe (l : Launch) (D : va_G) (k : Nat → ClassId) (ad : Nat → Nat) (av : Int32) (sz : Nat) : Met l yX6_safe (.code yX6_safe cX6_safe 2 (some .int) :: gx_T) ({ frames := 2, cells := 0, slots := 0, locals := 43 }) (gx_Pre D k [.ref (ad 0), .int av] ([((ad 0), .inr (4, [.ref (ad 1), .ref (ad 2), .ref (ad 3), .ref (ad 4), .ref (ad 5), .ref (ad 6), .ref (ad 7), .ref (ad 8), .ref (ad 9), .int 0])), ((ad 1), .inr (0, [.ref (ad 10), .ref (ad 11), .ref (ad 12), .ref (ad 13), .ref (ad 14), .ref (ad 15), .ref (ad 16), .ref (ad 17), .ref (ad 18), .int 0, .int 0, .int 0, .int 0, .int 1, .int 0, .int 0, .int 0])), ((ad 9), .inl (k 0, 5, .inl (fun _ => 0)))]) sz) (gx_Qi D (fun (r : Int32) (u : Unit) => r = -2) (fun (u : Unit) => ([] : va_W)) (va_A ([((ad 0), .inr (4, [.ref (ad 1), .ref (ad 2), .ref (ad 3), .ref (ad 4), .ref (ad 5), .ref (ad 6), .ref (ad 7), .ref (ad 8), .ref (ad 9), .int 0])), ((ad 1), .inr (0, [.ref (ad 10), .ref (ad 11), .ref (ad 12), .ref (ad 13), .ref (ad 14), .ref (ad 15), .ref (ad 16), .ref (ad 17), .ref (ad 18), .int 0, .int 0, .int 0, .int 0, .int 1, .int 0, .int 0, .int 0])), ((ad 9), .inl (k 0, 5, .inl (fun _ => 0)))]) sz)) 0 0 (va_A ([((ad 0), .inr (4, [.ref (ad 1), .ref (ad 2), .ref (ad 3), .ref (ad 4), .ref (ad 5), .ref (ad 6), .ref (ad 7), .ref (ad 8), .ref (ad 9), .int 0])), ((ad 1), .inr (0, [.ref (ad 10), .ref (ad 11), .ref (ad 12), .ref (ad 13), .ref (ad 14), .ref (ad 15), .ref (ad 16), .ref (ad 17), .ref (ad 18), .int 0, .int 0, .int 0, .int 0, .int 1, .int 0, .int 0, .int 0])), ((ad 9), .inl (k 0, 5, .inl (fun _ => 0)))]) sz) := by
  refine gx_metE (Qc := fun A => gx_Qi D (fun (r : Int32) (u : Unit) => r = -2) (fun (u : Unit) => ([] : va_W)) A) (y := yX6_safe) (cc := cX6_safe) (n := 2) (ret := (some .int)) (av := [.ref (ad 0), .int av]) (by decide) (Nat.le_of_ble_eq_true rfl) ?_
  intro p e s m below meth c A ls C hA hP hD hK hS hl
  obtain ⟨hx, hb, hr, hml, hown, hT, hlk, hin⟩ := id C
  have hown : s.vm.findClass RX6 = some m.cls := hown
  have hl : lv_has ls 2 [(0, .ref (ad 0)), (1, .int av)] := hl
  refine lv_aload_n hx hb dX6_safe_0 rfl (lv_at hl 0 rfl) ?_
  refine lv_iload_n hx hb dX6_safe_1 rfl (lv_at hl 1 rfl) ?_
  refine gx_pi hP hS (gx_runV (na := 1) (As := [.int av]) (rest := []) (ci := 4) C hl.1 hK (gx_subP (wc := ([((ad 0), .inr (4, [.ref (ad 1), .ref (ad 2), .ref (ad 3), .ref (ad 4), .ref (ad 5), .ref (ad 6), .ref (ad 7), .ref (ad 8), .ref (ad 9), .int 0])), ((ad 1), .inr (0, [.ref (ad 10), .ref (ad 11), .ref (ad 12), .ref (ad 13), .ref (ad 14), .ref (ad 15), .ref (ad 16), .ref (ad 17), .ref (ad 18), .int 0, .int 0, .int 0, .int 0, .int 1, .int 0, .int 0, .int 0]))] : va_W)) hP [0, 1] rfl) ((hD.sub (ws' := ([((ad 0), .inr (4, [.ref (ad 1), .ref (ad 2), .ref (ad 3), .ref (ad 4), .ref (ad 5), .ref (ad 6), .ref (ad 7), .ref (ad 8), .ref (ad 9), .int 0])), ((ad 1), .inr (0, [.ref (ad 10), .ref (ad 11), .ref (ad 12), .ref (ad 13), .ref (ad 14), .ref (ad 15), .ref (ad 16), .ref (ad 17), .ref (ad 18), .int 0, .int 0, .int 0, .int 0, .int 1, .int 0, .int 0, .int 0]))] : va_W)) [0, 1] (by decide) rfl).weaken (fun _ _ _ _ => trivial)) (k_isOne l D k ad av _) gV_RX6_182 (by decide +kernel) rfl rfl ⟨Nat.le_of_ble_eq_true rfl, Nat.le_of_ble_eq_true rfl⟩ rfl rfl rfl rfl (Nat.le_of_ble_eq_true rfl) dX6_safe_2 ⟨Nat.le_of_ble_eq_true rfl, Nat.le_of_ble_eq_true rfl⟩) (fun r_2 H locs c_1 hP hS => ?_)
  have c_1 : r_2 = 0 := c_1
  subst c_1
  refine lv_if_ne (tgt := 15) hx hb dX6_safe_5 (by decide) (fun c_3 => absurd (by decide) c_3) (fun c_3 => ?_)
  refine lv_aload_n hx hb dX6_safe_8 rfl (lv_at hl 0 rfl) ?_
  refine lv_bipush (v := (-2)) hx hb dX6_safe_9 (by decide) ?_
  refine gx_ei (wc := ([((ad 0), .inr (4, [.ref (ad 1), .ref (ad 2), .ref (ad 3), .ref (ad 4), .ref (ad 5), .ref (ad 6), .ref (ad 7), .ref (ad 8), .ref (ad 9), .int 0])), ((ad 9), .inl (k 0, 5, .inl (fun _ => 0)))] : va_W)) (wr := [((ad 1), .inr (0, [.ref (ad 10), .ref (ad 11), .ref (ad 12), .ref (ad 13), .ref (ad 14), .ref (ad 15), .ref (ad 16), .ref (ad 17), .ref (ad 18), .int 0, .int 0, .int 0, .int 0, .int 1, .int 0, .int 0, .int 0]))]) (isC := [0, 2]) (isR := [1]) hP hD hS hA rfl rfl (by decide) (by decide) (gx_runV (na := 1) (As := [.int (-2)]) (rest := []) (ci := 4) C hl.1 hK (gx_subP (wc := ([((ad 0), .inr (4, [.ref (ad 1), .ref (ad 2), .ref (ad 3), .ref (ad 4), .ref (ad 5), .ref (ad 6), .ref (ad 7), .ref (ad 8), .ref (ad 9), .int 0])), ((ad 9), .inl (k 0, 5, .inl (fun _ => 0)))] : va_W)) hP [0, 2] rfl) ((hD.sub (ws' := ([((ad 0), .inr (4, [.ref (ad 1), .ref (ad 2), .ref (ad 3), .ref (ad 4), .ref (ad 5), .ref (ad 6), .ref (ad 7), .ref (ad 8), .ref (ad 9), .int 0])), ((ad 9), .inl (k 0, 5, .inl (fun _ => 0)))] : va_W)) [0, 2] (by decide) rfl).weaken (fun _ _ _ _ => trivial)) (k_refuse2 l D k ad _) gV_RX6_61 (by decide +kernel) rfl rfl ⟨Nat.le_of_ble_eq_true rfl, Nat.le_of_ble_eq_true rfl⟩ rfl rfl rfl rfl (Nat.le_of_ble_eq_true rfl) dX6_safe_11 ⟨Nat.le_of_ble_eq_true rfl, Nat.le_of_ble_eq_true rfl⟩) (fun r_6 u_4 H locs h_5 hP hD hS => ?_)
  have h_5 : r_6 = -2 := h_5
  have hP : va_P D gx_cl [((ad 1), .inr (0, [.ref (ad 10), .ref (ad 11), .ref (ad 12), .ref (ad 13), .ref (ad 14), .ref (ad 15), .ref (ad 16), .ref (ad 17), .ref (ad 18), .int 0, .int 0, .int 0, .int 0, .int 1, .int 0, .int 0, .int 0]))] H := hP
  have hD : va_D A [((ad 1), .inr (0, [.ref (ad 10), .ref (ad 11), .ref (ad 12), .ref (ad 13), .ref (ad 14), .ref (ad 15), .ref (ad 16), .ref (ad 17), .ref (ad 18), .int 0, .int 0, .int 0, .int 0, .int 1, .int 0, .int 0, .int 0]))] := hD
  have eh_5 := h_5
  subst eh_5
  exact gx_retI C (u := ()) gx_nil gx_noneD hS (rfl) dX6_safe_14
set_option maxHeartbeats 4000000 in
set_option maxRecDepth 100000 in
theorem x_go (l : Launch) (D : va_G) (k : Nat → ClassId) (ad : Nat → Nat) (av : Int32) (bv : Int32) (sz : Nat) : Met l yX6_go (.code yX6_go cX6_go 3 (some .int) :: gx_T) ({ frames := 2, cells := 0, slots := 0, locals := 43 }) (gx_Pre D k [.ref (ad 0), .int av, .int bv] ([((ad 0), .inr (4, [.ref (ad 1), .ref (ad 2), .ref (ad 3), .ref (ad 4), .ref (ad 5), .ref (ad 6), .ref (ad 7), .ref (ad 8), .ref (ad 9), .int 0])), ((ad 1), .inr (0, [.ref (ad 10), .ref (ad 11), .ref (ad 12), .ref (ad 13), .ref (ad 14), .ref (ad 15), .ref (ad 16), .ref (ad 17), .ref (ad 18), .int 0, .int 0, .int 0, .int 0, .int 1, .int 0, .int 0, .int 0])), ((ad 9), .inl (k 0, 5, .inl (fun _ => 0)))]) sz) (gx_Qi D (fun (r : Int32) (u : Unit) => r = -2) (fun (u : Unit) => ([] : va_W)) (va_A ([((ad 0), .inr (4, [.ref (ad 1), .ref (ad 2), .ref (ad 3), .ref (ad 4), .ref (ad 5), .ref (ad 6), .ref (ad 7), .ref (ad 8), .ref (ad 9), .int 0])), ((ad 1), .inr (0, [.ref (ad 10), .ref (ad 11), .ref (ad 12), .ref (ad 13), .ref (ad 14), .ref (ad 15), .ref (ad 16), .ref (ad 17), .ref (ad 18), .int 0, .int 0, .int 0, .int 0, .int 1, .int 0, .int 0, .int 0])), ((ad 9), .inl (k 0, 5, .inl (fun _ => 0)))]) sz)) 0 0 (va_A ([((ad 0), .inr (4, [.ref (ad 1), .ref (ad 2), .ref (ad 3), .ref (ad 4), .ref (ad 5), .ref (ad 6), .ref (ad 7), .ref (ad 8), .ref (ad 9), .int 0])), ((ad 1), .inr (0, [.ref (ad 10), .ref (ad 11), .ref (ad 12), .ref (ad 13), .ref (ad 14), .ref (ad 15), .ref (ad 16), .ref (ad 17), .ref (ad 18), .int 0, .int 0, .int 0, .int 0, .int 1, .int 0, .int 0, .int 0])), ((ad 9), .inl (k 0, 5, .inl (fun _ => 0)))]) sz) := by
  refine gx_metE (Qc := fun A => gx_Qi D (fun (r : Int32) (u : Unit) => r = -2) (fun (u : Unit) => ([] : va_W)) A) (y := yX6_go) (cc := cX6_go) (n := 3) (ret := (some .int)) (av := [.ref (ad 0), .int av, .int bv]) (by decide) (Nat.le_of_ble_eq_true rfl) ?_
  intro p e s m below meth c A ls C hA hP hD hK hS hl
  obtain ⟨hx, hb, hr, hml, hown, hT, hlk, hin⟩ := id C
  have hown : s.vm.findClass RX6 = some m.cls := hown
  have hl : lv_has ls 3 [(0, .ref (ad 0)), (1, .int av), (2, .int bv)] := hl
  refine lv_aload_n hx hb dX6_go_0 rfl (lv_at hl 0 rfl) ?_
  refine lv_iload_n hx hb dX6_go_1 rfl (lv_at hl 1 rfl) ?_
  refine gx_pi hP hS (gx_runV (na := 1) (As := [.int av]) (rest := []) (ci := 4) C hl.1 hK (gx_subP (wc := ([((ad 0), .inr (4, [.ref (ad 1), .ref (ad 2), .ref (ad 3), .ref (ad 4), .ref (ad 5), .ref (ad 6), .ref (ad 7), .ref (ad 8), .ref (ad 9), .int 0])), ((ad 1), .inr (0, [.ref (ad 10), .ref (ad 11), .ref (ad 12), .ref (ad 13), .ref (ad 14), .ref (ad 15), .ref (ad 16), .ref (ad 17), .ref (ad 18), .int 0, .int 0, .int 0, .int 0, .int 1, .int 0, .int 0, .int 0]))] : va_W)) hP [0, 1] rfl) ((hD.sub (ws' := ([((ad 0), .inr (4, [.ref (ad 1), .ref (ad 2), .ref (ad 3), .ref (ad 4), .ref (ad 5), .ref (ad 6), .ref (ad 7), .ref (ad 8), .ref (ad 9), .int 0])), ((ad 1), .inr (0, [.ref (ad 10), .ref (ad 11), .ref (ad 12), .ref (ad 13), .ref (ad 14), .ref (ad 15), .ref (ad 16), .ref (ad 17), .ref (ad 18), .int 0, .int 0, .int 0, .int 0, .int 1, .int 0, .int 0, .int 0]))] : va_W)) [0, 1] (by decide) rfl).weaken (fun _ _ _ _ => trivial)) (k_isOne l D k ad av _) gV_RX6_182 (by decide +kernel) rfl rfl ⟨Nat.le_of_ble_eq_true rfl, Nat.le_of_ble_eq_true rfl⟩ rfl rfl rfl rfl (Nat.le_of_ble_eq_true rfl) dX6_go_2 ⟨Nat.le_of_ble_eq_true rfl, Nat.le_of_ble_eq_true rfl⟩) (fun r_2 H locs c_1 hP hS => ?_)
  have c_1 : r_2 = 0 := c_1
  subst c_1
  refine lv_if_eq (tgt := 16) hx hb dX6_go_5 (by decide) (fun c_3 => ?_) (fun c_3 => absurd (by decide) c_3)
  refine lv_aload_n hx hb dX6_go_16 rfl (lv_at hl 0 rfl) ?_
  refine lv_bipush (v := (-2)) hx hb dX6_go_17 (by decide) ?_
  refine gx_ei (wc := ([((ad 0), .inr (4, [.ref (ad 1), .ref (ad 2), .ref (ad 3), .ref (ad 4), .ref (ad 5), .ref (ad 6), .ref (ad 7), .ref (ad 8), .ref (ad 9), .int 0])), ((ad 9), .inl (k 0, 5, .inl (fun _ => 0)))] : va_W)) (wr := [((ad 1), .inr (0, [.ref (ad 10), .ref (ad 11), .ref (ad 12), .ref (ad 13), .ref (ad 14), .ref (ad 15), .ref (ad 16), .ref (ad 17), .ref (ad 18), .int 0, .int 0, .int 0, .int 0, .int 1, .int 0, .int 0, .int 0]))]) (isC := [0, 2]) (isR := [1]) hP hD hS hA rfl rfl (by decide) (by decide) (gx_runV (na := 1) (As := [.int (-2)]) (rest := []) (ci := 4) C hl.1 hK (gx_subP (wc := ([((ad 0), .inr (4, [.ref (ad 1), .ref (ad 2), .ref (ad 3), .ref (ad 4), .ref (ad 5), .ref (ad 6), .ref (ad 7), .ref (ad 8), .ref (ad 9), .int 0])), ((ad 9), .inl (k 0, 5, .inl (fun _ => 0)))] : va_W)) hP [0, 2] rfl) ((hD.sub (ws' := ([((ad 0), .inr (4, [.ref (ad 1), .ref (ad 2), .ref (ad 3), .ref (ad 4), .ref (ad 5), .ref (ad 6), .ref (ad 7), .ref (ad 8), .ref (ad 9), .int 0])), ((ad 9), .inl (k 0, 5, .inl (fun _ => 0)))] : va_W)) [0, 2] (by decide) rfl).weaken (fun _ _ _ _ => trivial)) (k_refuse2 l D k ad _) gV_RX6_61 (by decide +kernel) rfl rfl ⟨Nat.le_of_ble_eq_true rfl, Nat.le_of_ble_eq_true rfl⟩ rfl rfl rfl rfl (Nat.le_of_ble_eq_true rfl) dX6_go_19 ⟨Nat.le_of_ble_eq_true rfl, Nat.le_of_ble_eq_true rfl⟩) (fun r_6 u_4 H locs h_5 hP hD hS => ?_)
  have h_5 : r_6 = -2 := h_5
  have hP : va_P D gx_cl [((ad 1), .inr (0, [.ref (ad 10), .ref (ad 11), .ref (ad 12), .ref (ad 13), .ref (ad 14), .ref (ad 15), .ref (ad 16), .ref (ad 17), .ref (ad 18), .int 0, .int 0, .int 0, .int 0, .int 1, .int 0, .int 0, .int 0]))] H := hP
  have hD : va_D A [((ad 1), .inr (0, [.ref (ad 10), .ref (ad 11), .ref (ad 12), .ref (ad 13), .ref (ad 14), .ref (ad 15), .ref (ad 16), .ref (ad 17), .ref (ad 18), .int 0, .int 0, .int 0, .int 0, .int 1, .int 0, .int 0, .int 0]))] := hD
  have eh_5 := h_5
  subst eh_5
  exact gx_retI C (u := ()) gx_nil gx_noneD hS (rfl) dX6_go_22
set_option maxHeartbeats 4000000 in
set_option maxRecDepth 100000 in
theorem x_next (l : Launch) (D : va_G) (k : Nat → ClassId) (ad : Nat → Nat) (av : Int32) (bv : Int32) (sz : Nat) : Met l yX6_next (.code yX6_next cX6_next 4 (some .int) :: gx_T) ({ frames := 2, cells := 0, slots := 0, locals := 43 }) (gx_Pre D k [.ref (ad 0), .int av, .int bv] ([((ad 0), .inr (4, [.ref (ad 1), .ref (ad 2), .ref (ad 3), .ref (ad 4), .ref (ad 5), .ref (ad 6), .ref (ad 7), .ref (ad 8), .ref (ad 9), .int 0])), ((ad 1), .inr (0, [.ref (ad 10), .ref (ad 11), .ref (ad 12), .ref (ad 13), .ref (ad 14), .ref (ad 15), .ref (ad 16), .ref (ad 17), .ref (ad 18), .int 0, .int 0, .int 0, .int 0, .int 1, .int 0, .int 0, .int 0])), ((ad 9), .inl (k 0, 5, .inl (fun _ => 0)))]) sz) (gx_Qi D (fun (r : Int32) (u : Unit) => r = -2) (fun (u : Unit) => ([] : va_W)) (va_A ([((ad 0), .inr (4, [.ref (ad 1), .ref (ad 2), .ref (ad 3), .ref (ad 4), .ref (ad 5), .ref (ad 6), .ref (ad 7), .ref (ad 8), .ref (ad 9), .int 0])), ((ad 1), .inr (0, [.ref (ad 10), .ref (ad 11), .ref (ad 12), .ref (ad 13), .ref (ad 14), .ref (ad 15), .ref (ad 16), .ref (ad 17), .ref (ad 18), .int 0, .int 0, .int 0, .int 0, .int 1, .int 0, .int 0, .int 0])), ((ad 9), .inl (k 0, 5, .inl (fun _ => 0)))]) sz)) 0 0 (va_A ([((ad 0), .inr (4, [.ref (ad 1), .ref (ad 2), .ref (ad 3), .ref (ad 4), .ref (ad 5), .ref (ad 6), .ref (ad 7), .ref (ad 8), .ref (ad 9), .int 0])), ((ad 1), .inr (0, [.ref (ad 10), .ref (ad 11), .ref (ad 12), .ref (ad 13), .ref (ad 14), .ref (ad 15), .ref (ad 16), .ref (ad 17), .ref (ad 18), .int 0, .int 0, .int 0, .int 0, .int 1, .int 0, .int 0, .int 0])), ((ad 9), .inl (k 0, 5, .inl (fun _ => 0)))]) sz) := by
  refine gx_metE (Qc := fun A => gx_Qi D (fun (r : Int32) (u : Unit) => r = -2) (fun (u : Unit) => ([] : va_W)) A) (y := yX6_next) (cc := cX6_next) (n := 4) (ret := (some .int)) (av := [.ref (ad 0), .int av, .int bv]) (by decide) (Nat.le_of_ble_eq_true rfl) ?_
  intro p e s m below meth c A ls C hA hP hD hK hS hl
  obtain ⟨hx, hb, hr, hml, hown, hT, hlk, hin⟩ := id C
  have hown : s.vm.findClass RX6 = some m.cls := hown
  have hl : lv_has ls 4 [(0, .ref (ad 0)), (1, .int av), (2, .int bv)] := hl
  refine lv_iload_n hx hb dX6_next_0 rfl (lv_at hl 1 rfl) ?_
  refine gx_pi hP hS (gx_runS (na := 1) (As := [.int av]) (rest := []) C hl.1 hK (gx_subP (wc := ([] : va_W)) hP [] rfl) ((hD.sub (ws' := ([] : va_W)) [] (by decide) rfl).weaken (fun _ _ _ _ => trivial)) (k_isShelf l D k av _) gS_RX6_53 (by decide +kernel) rfl rfl ⟨Nat.le_of_ble_eq_true rfl, Nat.le_of_ble_eq_true rfl⟩ rfl rfl (Nat.le_of_ble_eq_true rfl) dX6_next_1 ⟨Nat.le_of_ble_eq_true rfl, Nat.le_of_ble_eq_true rfl⟩) (fun r_2 H locs pc_1 hP hS => ?_)
  have oc_1 : r_2 = 1 ∧ gx_b av 0 7 = true ∨ r_2 = 0 ∧ gx_b av 0 7 = false := pc_1
  clear pc_1
  rcases oc_1 with ⟨rfl, c_1⟩ | ⟨rfl, c_1⟩
  · refine lv_if_eq (tgt := 15) hx hb dX6_next_4 (by decide) (fun c_3 => absurd c_3 (by decide)) (fun c_3 => ?_)
    refine lv_aload_n hx hb dX6_next_7 rfl (lv_at hl 0 rfl) ?_
    refine lv_iload_n hx hb dX6_next_8 rfl (lv_at hl 2 rfl) ?_
    refine gx_pi hP hS (gx_runV (na := 1) (As := [.int bv]) (rest := []) (ci := 4) C hl.1 hK (gx_subP (wc := ([((ad 0), .inr (4, [.ref (ad 1), .ref (ad 2), .ref (ad 3), .ref (ad 4), .ref (ad 5), .ref (ad 6), .ref (ad 7), .ref (ad 8), .ref (ad 9), .int 0])), ((ad 1), .inr (0, [.ref (ad 10), .ref (ad 11), .ref (ad 12), .ref (ad 13), .ref (ad 14), .ref (ad 15), .ref (ad 16), .ref (ad 17), .ref (ad 18), .int 0, .int 0, .int 0, .int 0, .int 1, .int 0, .int 0, .int 0]))] : va_W)) hP [0, 1] rfl) ((hD.sub (ws' := ([((ad 0), .inr (4, [.ref (ad 1), .ref (ad 2), .ref (ad 3), .ref (ad 4), .ref (ad 5), .ref (ad 6), .ref (ad 7), .ref (ad 8), .ref (ad 9), .int 0])), ((ad 1), .inr (0, [.ref (ad 10), .ref (ad 11), .ref (ad 12), .ref (ad 13), .ref (ad 14), .ref (ad 15), .ref (ad 16), .ref (ad 17), .ref (ad 18), .int 0, .int 0, .int 0, .int 0, .int 1, .int 0, .int 0, .int 0]))] : va_W)) [0, 1] (by decide) rfl).weaken (fun _ _ _ _ => trivial)) (k_isOne l D k ad bv _) gV_RX6_182 (by decide +kernel) rfl rfl ⟨Nat.le_of_ble_eq_true rfl, Nat.le_of_ble_eq_true rfl⟩ rfl rfl rfl rfl (Nat.le_of_ble_eq_true rfl) dX6_next_9 ⟨Nat.le_of_ble_eq_true rfl, Nat.le_of_ble_eq_true rfl⟩) (fun r_5 H locs c_4 hP hS => ?_)
    have c_4 : r_5 = 0 := c_4
    subst c_4
    refine lv_if_ne (tgt := 22) hx hb dX6_next_12 (by decide) (fun c_6 => absurd (by decide) c_6) (fun c_6 => ?_)
    refine lv_aload_n hx hb dX6_next_15 rfl (lv_at hl 0 rfl) ?_
    refine lv_bipush (v := (-2)) hx hb dX6_next_16 (by decide) ?_
    refine gx_ei (wc := ([((ad 0), .inr (4, [.ref (ad 1), .ref (ad 2), .ref (ad 3), .ref (ad 4), .ref (ad 5), .ref (ad 6), .ref (ad 7), .ref (ad 8), .ref (ad 9), .int 0])), ((ad 9), .inl (k 0, 5, .inl (fun _ => 0)))] : va_W)) (wr := [((ad 1), .inr (0, [.ref (ad 10), .ref (ad 11), .ref (ad 12), .ref (ad 13), .ref (ad 14), .ref (ad 15), .ref (ad 16), .ref (ad 17), .ref (ad 18), .int 0, .int 0, .int 0, .int 0, .int 1, .int 0, .int 0, .int 0]))]) (isC := [0, 2]) (isR := [1]) hP hD hS hA rfl rfl (by decide) (by decide) (gx_runV (na := 1) (As := [.int (-2)]) (rest := []) (ci := 4) C hl.1 hK (gx_subP (wc := ([((ad 0), .inr (4, [.ref (ad 1), .ref (ad 2), .ref (ad 3), .ref (ad 4), .ref (ad 5), .ref (ad 6), .ref (ad 7), .ref (ad 8), .ref (ad 9), .int 0])), ((ad 9), .inl (k 0, 5, .inl (fun _ => 0)))] : va_W)) hP [0, 2] rfl) ((hD.sub (ws' := ([((ad 0), .inr (4, [.ref (ad 1), .ref (ad 2), .ref (ad 3), .ref (ad 4), .ref (ad 5), .ref (ad 6), .ref (ad 7), .ref (ad 8), .ref (ad 9), .int 0])), ((ad 9), .inl (k 0, 5, .inl (fun _ => 0)))] : va_W)) [0, 2] (by decide) rfl).weaken (fun _ _ _ _ => trivial)) (k_refuse2 l D k ad _) gV_RX6_61 (by decide +kernel) rfl rfl ⟨Nat.le_of_ble_eq_true rfl, Nat.le_of_ble_eq_true rfl⟩ rfl rfl rfl rfl (Nat.le_of_ble_eq_true rfl) dX6_next_18 ⟨Nat.le_of_ble_eq_true rfl, Nat.le_of_ble_eq_true rfl⟩) (fun r_9 u_7 H locs h_8 hP hD hS => ?_)
    have h_8 : r_9 = -2 := h_8
    have hP : va_P D gx_cl [((ad 1), .inr (0, [.ref (ad 10), .ref (ad 11), .ref (ad 12), .ref (ad 13), .ref (ad 14), .ref (ad 15), .ref (ad 16), .ref (ad 17), .ref (ad 18), .int 0, .int 0, .int 0, .int 0, .int 1, .int 0, .int 0, .int 0]))] H := hP
    have hD : va_D A [((ad 1), .inr (0, [.ref (ad 10), .ref (ad 11), .ref (ad 12), .ref (ad 13), .ref (ad 14), .ref (ad 15), .ref (ad 16), .ref (ad 17), .ref (ad 18), .int 0, .int 0, .int 0, .int 0, .int 1, .int 0, .int 0, .int 0]))] := hD
    have eh_8 := h_8
    subst eh_8
    exact gx_retI C (u := ()) gx_nil gx_noneD hS (rfl) dX6_next_21
  · refine lv_if_eq (tgt := 15) hx hb dX6_next_4 (by decide) (fun c_11 => ?_) (fun c_11 => absurd (by decide) c_11)
    refine lv_aload_n hx hb dX6_next_15 rfl (lv_at hl 0 rfl) ?_
    refine lv_bipush (v := (-2)) hx hb dX6_next_16 (by decide) ?_
    refine gx_ei (wc := ([((ad 0), .inr (4, [.ref (ad 1), .ref (ad 2), .ref (ad 3), .ref (ad 4), .ref (ad 5), .ref (ad 6), .ref (ad 7), .ref (ad 8), .ref (ad 9), .int 0])), ((ad 9), .inl (k 0, 5, .inl (fun _ => 0)))] : va_W)) (wr := [((ad 1), .inr (0, [.ref (ad 10), .ref (ad 11), .ref (ad 12), .ref (ad 13), .ref (ad 14), .ref (ad 15), .ref (ad 16), .ref (ad 17), .ref (ad 18), .int 0, .int 0, .int 0, .int 0, .int 1, .int 0, .int 0, .int 0]))]) (isC := [0, 2]) (isR := [1]) hP hD hS hA rfl rfl (by decide) (by decide) (gx_runV (na := 1) (As := [.int (-2)]) (rest := []) (ci := 4) C hl.1 hK (gx_subP (wc := ([((ad 0), .inr (4, [.ref (ad 1), .ref (ad 2), .ref (ad 3), .ref (ad 4), .ref (ad 5), .ref (ad 6), .ref (ad 7), .ref (ad 8), .ref (ad 9), .int 0])), ((ad 9), .inl (k 0, 5, .inl (fun _ => 0)))] : va_W)) hP [0, 2] rfl) ((hD.sub (ws' := ([((ad 0), .inr (4, [.ref (ad 1), .ref (ad 2), .ref (ad 3), .ref (ad 4), .ref (ad 5), .ref (ad 6), .ref (ad 7), .ref (ad 8), .ref (ad 9), .int 0])), ((ad 9), .inl (k 0, 5, .inl (fun _ => 0)))] : va_W)) [0, 2] (by decide) rfl).weaken (fun _ _ _ _ => trivial)) (k_refuse2 l D k ad _) gV_RX6_61 (by decide +kernel) rfl rfl ⟨Nat.le_of_ble_eq_true rfl, Nat.le_of_ble_eq_true rfl⟩ rfl rfl rfl rfl (Nat.le_of_ble_eq_true rfl) dX6_next_18 ⟨Nat.le_of_ble_eq_true rfl, Nat.le_of_ble_eq_true rfl⟩) (fun r_14 u_12 H locs h_13 hP hD hS => ?_)
    have h_13 : r_14 = -2 := h_13
    have hP : va_P D gx_cl [((ad 1), .inr (0, [.ref (ad 10), .ref (ad 11), .ref (ad 12), .ref (ad 13), .ref (ad 14), .ref (ad 15), .ref (ad 16), .ref (ad 17), .ref (ad 18), .int 0, .int 0, .int 0, .int 0, .int 1, .int 0, .int 0, .int 0]))] H := hP
    have hD : va_D A [((ad 1), .inr (0, [.ref (ad 10), .ref (ad 11), .ref (ad 12), .ref (ad 13), .ref (ad 14), .ref (ad 15), .ref (ad 16), .ref (ad 17), .ref (ad 18), .int 0, .int 0, .int 0, .int 0, .int 1, .int 0, .int 0, .int 0]))] := hD
    have eh_13 := h_13
    subst eh_13
    exact gx_retI C (u := ()) gx_nil gx_noneD hS (rfl) dX6_next_21
set_option maxHeartbeats 4000000 in
set_option maxRecDepth 100000 in
theorem x_run (l : Launch) (D : va_G) (k : Nat → ClassId) (ad : Nat → Nat) (av : Int32) (bv : Int32) (cv : Int32) (dv : Int32) (sz : Nat) : Met l yX6_run (.code yX6_run cX6_run 7 (some .int) :: gx_T) ({ frames := 2, cells := 0, slots := 0, locals := 43 }) (gx_Pre D k [.ref (ad 0), .int av, .int bv, .int cv, .int dv] ([((ad 0), .inr (4, [.ref (ad 1), .ref (ad 2), .ref (ad 3), .ref (ad 4), .ref (ad 5), .ref (ad 6), .ref (ad 7), .ref (ad 8), .ref (ad 9), .int 0])), ((ad 1), .inr (0, [.ref (ad 10), .ref (ad 11), .ref (ad 12), .ref (ad 13), .ref (ad 14), .ref (ad 15), .ref (ad 16), .ref (ad 17), .ref (ad 18), .int 0, .int 0, .int 0, .int 0, .int 1, .int 0, .int 0, .int 0])), ((ad 9), .inl (k 0, 5, .inl (fun _ => 0)))]) sz) (gx_Qi D (fun (r : Int32) (u : Unit) => r = -2) (fun (u : Unit) => ([] : va_W)) (va_A ([((ad 0), .inr (4, [.ref (ad 1), .ref (ad 2), .ref (ad 3), .ref (ad 4), .ref (ad 5), .ref (ad 6), .ref (ad 7), .ref (ad 8), .ref (ad 9), .int 0])), ((ad 1), .inr (0, [.ref (ad 10), .ref (ad 11), .ref (ad 12), .ref (ad 13), .ref (ad 14), .ref (ad 15), .ref (ad 16), .ref (ad 17), .ref (ad 18), .int 0, .int 0, .int 0, .int 0, .int 1, .int 0, .int 0, .int 0])), ((ad 9), .inl (k 0, 5, .inl (fun _ => 0)))]) sz)) 0 0 (va_A ([((ad 0), .inr (4, [.ref (ad 1), .ref (ad 2), .ref (ad 3), .ref (ad 4), .ref (ad 5), .ref (ad 6), .ref (ad 7), .ref (ad 8), .ref (ad 9), .int 0])), ((ad 1), .inr (0, [.ref (ad 10), .ref (ad 11), .ref (ad 12), .ref (ad 13), .ref (ad 14), .ref (ad 15), .ref (ad 16), .ref (ad 17), .ref (ad 18), .int 0, .int 0, .int 0, .int 0, .int 1, .int 0, .int 0, .int 0])), ((ad 9), .inl (k 0, 5, .inl (fun _ => 0)))]) sz) := by
  refine gx_metE (Qc := fun A => gx_Qi D (fun (r : Int32) (u : Unit) => r = -2) (fun (u : Unit) => ([] : va_W)) A) (y := yX6_run) (cc := cX6_run) (n := 7) (ret := (some .int)) (av := [.ref (ad 0), .int av, .int bv, .int cv, .int dv]) (by decide) (Nat.le_of_ble_eq_true rfl) ?_
  intro p e s m below meth c A ls C hA hP hD hK hS hl
  obtain ⟨hx, hb, hr, hml, hown, hT, hlk, hin⟩ := id C
  have hown : s.vm.findClass RX6 = some m.cls := hown
  have hl : lv_has ls 7 [(0, .ref (ad 0)), (1, .int av), (2, .int bv), (3, .int cv), (4, .int dv)] := hl
  refine lv_iload_n hx hb dX6_run_0 rfl (lv_at hl 1 rfl) ?_
  refine gx_pi hP hS (gx_runS (na := 1) (As := [.int av]) (rest := []) C hl.1 hK (gx_subP (wc := ([] : va_W)) hP [] rfl) ((hD.sub (ws' := ([] : va_W)) [] (by decide) rfl).weaken (fun _ _ _ _ => trivial)) (k_isShelf l D k av _) gS_RX6_53 (by decide +kernel) rfl rfl ⟨Nat.le_of_ble_eq_true rfl, Nat.le_of_ble_eq_true rfl⟩ rfl rfl (Nat.le_of_ble_eq_true rfl) dX6_run_1 ⟨Nat.le_of_ble_eq_true rfl, Nat.le_of_ble_eq_true rfl⟩) (fun r_2 H locs pc_1 hP hS => ?_)
  have oc_1 : r_2 = 1 ∧ gx_b av 0 7 = true ∨ r_2 = 0 ∧ gx_b av 0 7 = false := pc_1
  clear pc_1
  rcases oc_1 with ⟨rfl, c_1⟩ | ⟨rfl, c_1⟩
  · refine lv_if_eq (tgt := 35) hx hb dX6_run_4 (by decide) (fun c_3 => absurd c_3 (by decide)) (fun c_3 => ?_)
    refine lv_aload_n hx hb dX6_run_7 rfl (lv_at hl 0 rfl) ?_
    refine lv_iload_n hx hb dX6_run_8 rfl (lv_at hl 2 rfl) ?_
    refine gx_pi hP hS (gx_runV (na := 1) (As := [.int bv]) (rest := []) (ci := 4) C hl.1 hK (gx_subP (wc := ([((ad 0), .inr (4, [.ref (ad 1), .ref (ad 2), .ref (ad 3), .ref (ad 4), .ref (ad 5), .ref (ad 6), .ref (ad 7), .ref (ad 8), .ref (ad 9), .int 0])), ((ad 1), .inr (0, [.ref (ad 10), .ref (ad 11), .ref (ad 12), .ref (ad 13), .ref (ad 14), .ref (ad 15), .ref (ad 16), .ref (ad 17), .ref (ad 18), .int 0, .int 0, .int 0, .int 0, .int 1, .int 0, .int 0, .int 0]))] : va_W)) hP [0, 1] rfl) ((hD.sub (ws' := ([((ad 0), .inr (4, [.ref (ad 1), .ref (ad 2), .ref (ad 3), .ref (ad 4), .ref (ad 5), .ref (ad 6), .ref (ad 7), .ref (ad 8), .ref (ad 9), .int 0])), ((ad 1), .inr (0, [.ref (ad 10), .ref (ad 11), .ref (ad 12), .ref (ad 13), .ref (ad 14), .ref (ad 15), .ref (ad 16), .ref (ad 17), .ref (ad 18), .int 0, .int 0, .int 0, .int 0, .int 1, .int 0, .int 0, .int 0]))] : va_W)) [0, 1] (by decide) rfl).weaken (fun _ _ _ _ => trivial)) (k_isOne l D k ad bv _) gV_RX6_182 (by decide +kernel) rfl rfl ⟨Nat.le_of_ble_eq_true rfl, Nat.le_of_ble_eq_true rfl⟩ rfl rfl rfl rfl (Nat.le_of_ble_eq_true rfl) dX6_run_9 ⟨Nat.le_of_ble_eq_true rfl, Nat.le_of_ble_eq_true rfl⟩) (fun r_5 H locs c_4 hP hS => ?_)
    have c_4 : r_5 = 0 := c_4
    subst c_4
    refine lv_if_eq (tgt := 35) hx hb dX6_run_12 (by decide) (fun c_6 => ?_) (fun c_6 => absurd (by decide) c_6)
    refine lv_aload_n hx hb dX6_run_35 rfl (lv_at hl 0 rfl) ?_
    refine lv_bipush (v := (-2)) hx hb dX6_run_36 (by decide) ?_
    refine gx_ei (wc := ([((ad 0), .inr (4, [.ref (ad 1), .ref (ad 2), .ref (ad 3), .ref (ad 4), .ref (ad 5), .ref (ad 6), .ref (ad 7), .ref (ad 8), .ref (ad 9), .int 0])), ((ad 9), .inl (k 0, 5, .inl (fun _ => 0)))] : va_W)) (wr := [((ad 1), .inr (0, [.ref (ad 10), .ref (ad 11), .ref (ad 12), .ref (ad 13), .ref (ad 14), .ref (ad 15), .ref (ad 16), .ref (ad 17), .ref (ad 18), .int 0, .int 0, .int 0, .int 0, .int 1, .int 0, .int 0, .int 0]))]) (isC := [0, 2]) (isR := [1]) hP hD hS hA rfl rfl (by decide) (by decide) (gx_runV (na := 1) (As := [.int (-2)]) (rest := []) (ci := 4) C hl.1 hK (gx_subP (wc := ([((ad 0), .inr (4, [.ref (ad 1), .ref (ad 2), .ref (ad 3), .ref (ad 4), .ref (ad 5), .ref (ad 6), .ref (ad 7), .ref (ad 8), .ref (ad 9), .int 0])), ((ad 9), .inl (k 0, 5, .inl (fun _ => 0)))] : va_W)) hP [0, 2] rfl) ((hD.sub (ws' := ([((ad 0), .inr (4, [.ref (ad 1), .ref (ad 2), .ref (ad 3), .ref (ad 4), .ref (ad 5), .ref (ad 6), .ref (ad 7), .ref (ad 8), .ref (ad 9), .int 0])), ((ad 9), .inl (k 0, 5, .inl (fun _ => 0)))] : va_W)) [0, 2] (by decide) rfl).weaken (fun _ _ _ _ => trivial)) (k_refuse2 l D k ad _) gV_RX6_61 (by decide +kernel) rfl rfl ⟨Nat.le_of_ble_eq_true rfl, Nat.le_of_ble_eq_true rfl⟩ rfl rfl rfl rfl (Nat.le_of_ble_eq_true rfl) dX6_run_38 ⟨Nat.le_of_ble_eq_true rfl, Nat.le_of_ble_eq_true rfl⟩) (fun r_9 u_7 H locs h_8 hP hD hS => ?_)
    have h_8 : r_9 = -2 := h_8
    have hP : va_P D gx_cl [((ad 1), .inr (0, [.ref (ad 10), .ref (ad 11), .ref (ad 12), .ref (ad 13), .ref (ad 14), .ref (ad 15), .ref (ad 16), .ref (ad 17), .ref (ad 18), .int 0, .int 0, .int 0, .int 0, .int 1, .int 0, .int 0, .int 0]))] H := hP
    have hD : va_D A [((ad 1), .inr (0, [.ref (ad 10), .ref (ad 11), .ref (ad 12), .ref (ad 13), .ref (ad 14), .ref (ad 15), .ref (ad 16), .ref (ad 17), .ref (ad 18), .int 0, .int 0, .int 0, .int 0, .int 1, .int 0, .int 0, .int 0]))] := hD
    have eh_8 := h_8
    subst eh_8
    exact gx_retI C (u := ()) gx_nil gx_noneD hS (rfl) dX6_run_41
  · refine lv_if_eq (tgt := 35) hx hb dX6_run_4 (by decide) (fun c_11 => ?_) (fun c_11 => absurd (by decide) c_11)
    refine lv_aload_n hx hb dX6_run_35 rfl (lv_at hl 0 rfl) ?_
    refine lv_bipush (v := (-2)) hx hb dX6_run_36 (by decide) ?_
    refine gx_ei (wc := ([((ad 0), .inr (4, [.ref (ad 1), .ref (ad 2), .ref (ad 3), .ref (ad 4), .ref (ad 5), .ref (ad 6), .ref (ad 7), .ref (ad 8), .ref (ad 9), .int 0])), ((ad 9), .inl (k 0, 5, .inl (fun _ => 0)))] : va_W)) (wr := [((ad 1), .inr (0, [.ref (ad 10), .ref (ad 11), .ref (ad 12), .ref (ad 13), .ref (ad 14), .ref (ad 15), .ref (ad 16), .ref (ad 17), .ref (ad 18), .int 0, .int 0, .int 0, .int 0, .int 1, .int 0, .int 0, .int 0]))]) (isC := [0, 2]) (isR := [1]) hP hD hS hA rfl rfl (by decide) (by decide) (gx_runV (na := 1) (As := [.int (-2)]) (rest := []) (ci := 4) C hl.1 hK (gx_subP (wc := ([((ad 0), .inr (4, [.ref (ad 1), .ref (ad 2), .ref (ad 3), .ref (ad 4), .ref (ad 5), .ref (ad 6), .ref (ad 7), .ref (ad 8), .ref (ad 9), .int 0])), ((ad 9), .inl (k 0, 5, .inl (fun _ => 0)))] : va_W)) hP [0, 2] rfl) ((hD.sub (ws' := ([((ad 0), .inr (4, [.ref (ad 1), .ref (ad 2), .ref (ad 3), .ref (ad 4), .ref (ad 5), .ref (ad 6), .ref (ad 7), .ref (ad 8), .ref (ad 9), .int 0])), ((ad 9), .inl (k 0, 5, .inl (fun _ => 0)))] : va_W)) [0, 2] (by decide) rfl).weaken (fun _ _ _ _ => trivial)) (k_refuse2 l D k ad _) gV_RX6_61 (by decide +kernel) rfl rfl ⟨Nat.le_of_ble_eq_true rfl, Nat.le_of_ble_eq_true rfl⟩ rfl rfl rfl rfl (Nat.le_of_ble_eq_true rfl) dX6_run_38 ⟨Nat.le_of_ble_eq_true rfl, Nat.le_of_ble_eq_true rfl⟩) (fun r_14 u_12 H locs h_13 hP hD hS => ?_)
    have h_13 : r_14 = -2 := h_13
    have hP : va_P D gx_cl [((ad 1), .inr (0, [.ref (ad 10), .ref (ad 11), .ref (ad 12), .ref (ad 13), .ref (ad 14), .ref (ad 15), .ref (ad 16), .ref (ad 17), .ref (ad 18), .int 0, .int 0, .int 0, .int 0, .int 1, .int 0, .int 0, .int 0]))] H := hP
    have hD : va_D A [((ad 1), .inr (0, [.ref (ad 10), .ref (ad 11), .ref (ad 12), .ref (ad 13), .ref (ad 14), .ref (ad 15), .ref (ad 16), .ref (ad 17), .ref (ad 18), .int 0, .int 0, .int 0, .int 0, .int 1, .int 0, .int 0, .int 0]))] := hD
    have eh_13 := h_13
    subst eh_13
    exact gx_retI C (u := ()) gx_nil gx_noneD hS (rfl) dX6_run_41
set_option maxHeartbeats 4000000 in
set_option maxRecDepth 100000 in
theorem x_head (l : Launch) (D : va_G) (k : Nat → ClassId) (ad : Nat → Nat) (av : Int32) (sz : Nat) : Met l yX6_head (.code yX6_head cX6_head 6 (some .int) :: gx_T) ({ frames := 2, cells := 0, slots := 0, locals := 43 }) (gx_Pre D k [.ref (ad 0), .int av] ([((ad 0), .inr (4, [.ref (ad 1), .ref (ad 2), .ref (ad 3), .ref (ad 4), .ref (ad 5), .ref (ad 6), .ref (ad 7), .ref (ad 8), .ref (ad 9), .int 0])), ((ad 1), .inr (0, [.ref (ad 10), .ref (ad 11), .ref (ad 12), .ref (ad 13), .ref (ad 14), .ref (ad 15), .ref (ad 16), .ref (ad 17), .ref (ad 18), .int 0, .int 0, .int 0, .int 0, .int 1, .int 0, .int 0, .int 0])), ((ad 9), .inl (k 0, 5, .inl (fun _ => 0)))]) sz) (gx_Qi D (fun (r : Int32) (u : Unit) => r = -2) (fun (u : Unit) => ([] : va_W)) (va_A ([((ad 0), .inr (4, [.ref (ad 1), .ref (ad 2), .ref (ad 3), .ref (ad 4), .ref (ad 5), .ref (ad 6), .ref (ad 7), .ref (ad 8), .ref (ad 9), .int 0])), ((ad 1), .inr (0, [.ref (ad 10), .ref (ad 11), .ref (ad 12), .ref (ad 13), .ref (ad 14), .ref (ad 15), .ref (ad 16), .ref (ad 17), .ref (ad 18), .int 0, .int 0, .int 0, .int 0, .int 1, .int 0, .int 0, .int 0])), ((ad 9), .inl (k 0, 5, .inl (fun _ => 0)))]) sz)) 0 0 (va_A ([((ad 0), .inr (4, [.ref (ad 1), .ref (ad 2), .ref (ad 3), .ref (ad 4), .ref (ad 5), .ref (ad 6), .ref (ad 7), .ref (ad 8), .ref (ad 9), .int 0])), ((ad 1), .inr (0, [.ref (ad 10), .ref (ad 11), .ref (ad 12), .ref (ad 13), .ref (ad 14), .ref (ad 15), .ref (ad 16), .ref (ad 17), .ref (ad 18), .int 0, .int 0, .int 0, .int 0, .int 1, .int 0, .int 0, .int 0])), ((ad 9), .inl (k 0, 5, .inl (fun _ => 0)))]) sz) := by
  refine gx_metE (Qc := fun A => gx_Qi D (fun (r : Int32) (u : Unit) => r = -2) (fun (u : Unit) => ([] : va_W)) A) (y := yX6_head) (cc := cX6_head) (n := 6) (ret := (some .int)) (av := [.ref (ad 0), .int av]) (by decide) (Nat.le_of_ble_eq_true rfl) ?_
  intro p e s m below meth c A ls C hA hP hD hK hS hl
  obtain ⟨hx, hb, hr, hml, hown, hT, hlk, hin⟩ := id C
  have hown : s.vm.findClass RX6 = some m.cls := hown
  have hl : lv_has ls 6 [(0, .ref (ad 0)), (1, .int av)] := hl
  refine lv_aload_n hx hb dX6_head_0 rfl (lv_at hl 0 rfl) ?_
  refine lv_iload_n hx hb dX6_head_1 rfl (lv_at hl 1 rfl) ?_
  refine gx_pi hP hS (gx_runV (na := 1) (As := [.int av]) (rest := []) (ci := 4) C hl.1 hK (gx_subP (wc := ([((ad 0), .inr (4, [.ref (ad 1), .ref (ad 2), .ref (ad 3), .ref (ad 4), .ref (ad 5), .ref (ad 6), .ref (ad 7), .ref (ad 8), .ref (ad 9), .int 0])), ((ad 1), .inr (0, [.ref (ad 10), .ref (ad 11), .ref (ad 12), .ref (ad 13), .ref (ad 14), .ref (ad 15), .ref (ad 16), .ref (ad 17), .ref (ad 18), .int 0, .int 0, .int 0, .int 0, .int 1, .int 0, .int 0, .int 0]))] : va_W)) hP [0, 1] rfl) ((hD.sub (ws' := ([((ad 0), .inr (4, [.ref (ad 1), .ref (ad 2), .ref (ad 3), .ref (ad 4), .ref (ad 5), .ref (ad 6), .ref (ad 7), .ref (ad 8), .ref (ad 9), .int 0])), ((ad 1), .inr (0, [.ref (ad 10), .ref (ad 11), .ref (ad 12), .ref (ad 13), .ref (ad 14), .ref (ad 15), .ref (ad 16), .ref (ad 17), .ref (ad 18), .int 0, .int 0, .int 0, .int 0, .int 1, .int 0, .int 0, .int 0]))] : va_W)) [0, 1] (by decide) rfl).weaken (fun _ _ _ _ => trivial)) (k_isOne l D k ad av _) gV_RX6_182 (by decide +kernel) rfl rfl ⟨Nat.le_of_ble_eq_true rfl, Nat.le_of_ble_eq_true rfl⟩ rfl rfl rfl rfl (Nat.le_of_ble_eq_true rfl) dX6_head_2 ⟨Nat.le_of_ble_eq_true rfl, Nat.le_of_ble_eq_true rfl⟩) (fun r_2 H locs c_1 hP hS => ?_)
  have c_1 : r_2 = 0 := c_1
  subst c_1
  refine lv_if_ne (tgt := 15) hx hb dX6_head_5 (by decide) (fun c_3 => absurd (by decide) c_3) (fun c_3 => ?_)
  refine lv_aload_n hx hb dX6_head_8 rfl (lv_at hl 0 rfl) ?_
  refine lv_bipush (v := (-2)) hx hb dX6_head_9 (by decide) ?_
  refine gx_ei (wc := ([((ad 0), .inr (4, [.ref (ad 1), .ref (ad 2), .ref (ad 3), .ref (ad 4), .ref (ad 5), .ref (ad 6), .ref (ad 7), .ref (ad 8), .ref (ad 9), .int 0])), ((ad 9), .inl (k 0, 5, .inl (fun _ => 0)))] : va_W)) (wr := [((ad 1), .inr (0, [.ref (ad 10), .ref (ad 11), .ref (ad 12), .ref (ad 13), .ref (ad 14), .ref (ad 15), .ref (ad 16), .ref (ad 17), .ref (ad 18), .int 0, .int 0, .int 0, .int 0, .int 1, .int 0, .int 0, .int 0]))]) (isC := [0, 2]) (isR := [1]) hP hD hS hA rfl rfl (by decide) (by decide) (gx_runV (na := 1) (As := [.int (-2)]) (rest := []) (ci := 4) C hl.1 hK (gx_subP (wc := ([((ad 0), .inr (4, [.ref (ad 1), .ref (ad 2), .ref (ad 3), .ref (ad 4), .ref (ad 5), .ref (ad 6), .ref (ad 7), .ref (ad 8), .ref (ad 9), .int 0])), ((ad 9), .inl (k 0, 5, .inl (fun _ => 0)))] : va_W)) hP [0, 2] rfl) ((hD.sub (ws' := ([((ad 0), .inr (4, [.ref (ad 1), .ref (ad 2), .ref (ad 3), .ref (ad 4), .ref (ad 5), .ref (ad 6), .ref (ad 7), .ref (ad 8), .ref (ad 9), .int 0])), ((ad 9), .inl (k 0, 5, .inl (fun _ => 0)))] : va_W)) [0, 2] (by decide) rfl).weaken (fun _ _ _ _ => trivial)) (k_refuse2 l D k ad _) gV_RX6_61 (by decide +kernel) rfl rfl ⟨Nat.le_of_ble_eq_true rfl, Nat.le_of_ble_eq_true rfl⟩ rfl rfl rfl rfl (Nat.le_of_ble_eq_true rfl) dX6_head_11 ⟨Nat.le_of_ble_eq_true rfl, Nat.le_of_ble_eq_true rfl⟩) (fun r_6 u_4 H locs h_5 hP hD hS => ?_)
  have h_5 : r_6 = -2 := h_5
  have hP : va_P D gx_cl [((ad 1), .inr (0, [.ref (ad 10), .ref (ad 11), .ref (ad 12), .ref (ad 13), .ref (ad 14), .ref (ad 15), .ref (ad 16), .ref (ad 17), .ref (ad 18), .int 0, .int 0, .int 0, .int 0, .int 1, .int 0, .int 0, .int 0]))] H := hP
  have hD : va_D A [((ad 1), .inr (0, [.ref (ad 10), .ref (ad 11), .ref (ad 12), .ref (ad 13), .ref (ad 14), .ref (ad 15), .ref (ad 16), .ref (ad 17), .ref (ad 18), .int 0, .int 0, .int 0, .int 0, .int 1, .int 0, .int 0, .int 0]))] := hD
  have eh_5 := h_5
  subst eh_5
  exact gx_retI C (u := ()) gx_nil gx_noneD hS (rfl) dX6_head_14
set_option maxHeartbeats 4000000 in
set_option maxRecDepth 100000 in
theorem x_lives (l : Launch) (D : va_G) (k : Nat → ClassId) (ad : Nat → Nat) (av : Int32) (bv : Int32) (cv : Int32) (sz : Nat) : Met l yX6_lives (.code yX6_lives cX6_lives 5 (some .int) :: gx_T) ({ frames := 2, cells := 0, slots := 0, locals := 43 }) (gx_Pre D k [.ref (ad 0), .int av, .int bv, .int cv] ([((ad 0), .inr (4, [.ref (ad 1), .ref (ad 2), .ref (ad 3), .ref (ad 4), .ref (ad 5), .ref (ad 6), .ref (ad 7), .ref (ad 8), .ref (ad 9), .int 0])), ((ad 1), .inr (0, [.ref (ad 10), .ref (ad 11), .ref (ad 12), .ref (ad 13), .ref (ad 14), .ref (ad 15), .ref (ad 16), .ref (ad 17), .ref (ad 18), .int 0, .int 0, .int 0, .int 0, .int 1, .int 0, .int 0, .int 0])), ((ad 9), .inl (k 0, 5, .inl (fun _ => 0)))]) sz) (gx_Qi D (fun (r : Int32) (u : Unit) => r = -2) (fun (u : Unit) => ([] : va_W)) (va_A ([((ad 0), .inr (4, [.ref (ad 1), .ref (ad 2), .ref (ad 3), .ref (ad 4), .ref (ad 5), .ref (ad 6), .ref (ad 7), .ref (ad 8), .ref (ad 9), .int 0])), ((ad 1), .inr (0, [.ref (ad 10), .ref (ad 11), .ref (ad 12), .ref (ad 13), .ref (ad 14), .ref (ad 15), .ref (ad 16), .ref (ad 17), .ref (ad 18), .int 0, .int 0, .int 0, .int 0, .int 1, .int 0, .int 0, .int 0])), ((ad 9), .inl (k 0, 5, .inl (fun _ => 0)))]) sz)) 0 0 (va_A ([((ad 0), .inr (4, [.ref (ad 1), .ref (ad 2), .ref (ad 3), .ref (ad 4), .ref (ad 5), .ref (ad 6), .ref (ad 7), .ref (ad 8), .ref (ad 9), .int 0])), ((ad 1), .inr (0, [.ref (ad 10), .ref (ad 11), .ref (ad 12), .ref (ad 13), .ref (ad 14), .ref (ad 15), .ref (ad 16), .ref (ad 17), .ref (ad 18), .int 0, .int 0, .int 0, .int 0, .int 1, .int 0, .int 0, .int 0])), ((ad 9), .inl (k 0, 5, .inl (fun _ => 0)))]) sz) := by
  refine gx_metE (Qc := fun A => gx_Qi D (fun (r : Int32) (u : Unit) => r = -2) (fun (u : Unit) => ([] : va_W)) A) (y := yX6_lives) (cc := cX6_lives) (n := 5) (ret := (some .int)) (av := [.ref (ad 0), .int av, .int bv, .int cv]) (by decide) (Nat.le_of_ble_eq_true rfl) ?_
  intro p e s m below meth c A ls C hA hP hD hK hS hl
  obtain ⟨hx, hb, hr, hml, hown, hT, hlk, hin⟩ := id C
  have hown : s.vm.findClass RX6 = some m.cls := hown
  have hl : lv_has ls 5 [(0, .ref (ad 0)), (1, .int av), (2, .int bv), (3, .int cv)] := hl
  refine lv_iload_n hx hb dX6_lives_0 rfl (lv_at hl 1 rfl) ?_
  refine gx_pi hP hS (gx_runS (na := 1) (As := [.int av]) (rest := []) C hl.1 hK (gx_subP (wc := ([] : va_W)) hP [] rfl) ((hD.sub (ws' := ([] : va_W)) [] (by decide) rfl).weaken (fun _ _ _ _ => trivial)) (k_isShelf l D k av _) gS_RX6_53 (by decide +kernel) rfl rfl ⟨Nat.le_of_ble_eq_true rfl, Nat.le_of_ble_eq_true rfl⟩ rfl rfl (Nat.le_of_ble_eq_true rfl) dX6_lives_1 ⟨Nat.le_of_ble_eq_true rfl, Nat.le_of_ble_eq_true rfl⟩) (fun r_2 H locs pc_1 hP hS => ?_)
  have oc_1 : r_2 = 1 ∧ gx_b av 0 7 = true ∨ r_2 = 0 ∧ gx_b av 0 7 = false := pc_1
  clear pc_1
  rcases oc_1 with ⟨rfl, c_1⟩ | ⟨rfl, c_1⟩
  · refine lv_if_eq (tgt := 25) hx hb dX6_lives_4 (by decide) (fun c_3 => absurd c_3 (by decide)) (fun c_3 => ?_)
    refine lv_aload_n hx hb dX6_lives_7 rfl (lv_at hl 0 rfl) ?_
    refine lv_iload_n hx hb dX6_lives_8 rfl (lv_at hl 2 rfl) ?_
    refine gx_pi hP hS (gx_runV (na := 1) (As := [.int bv]) (rest := []) (ci := 4) C hl.1 hK (gx_subP (wc := ([((ad 0), .inr (4, [.ref (ad 1), .ref (ad 2), .ref (ad 3), .ref (ad 4), .ref (ad 5), .ref (ad 6), .ref (ad 7), .ref (ad 8), .ref (ad 9), .int 0])), ((ad 1), .inr (0, [.ref (ad 10), .ref (ad 11), .ref (ad 12), .ref (ad 13), .ref (ad 14), .ref (ad 15), .ref (ad 16), .ref (ad 17), .ref (ad 18), .int 0, .int 0, .int 0, .int 0, .int 1, .int 0, .int 0, .int 0]))] : va_W)) hP [0, 1] rfl) ((hD.sub (ws' := ([((ad 0), .inr (4, [.ref (ad 1), .ref (ad 2), .ref (ad 3), .ref (ad 4), .ref (ad 5), .ref (ad 6), .ref (ad 7), .ref (ad 8), .ref (ad 9), .int 0])), ((ad 1), .inr (0, [.ref (ad 10), .ref (ad 11), .ref (ad 12), .ref (ad 13), .ref (ad 14), .ref (ad 15), .ref (ad 16), .ref (ad 17), .ref (ad 18), .int 0, .int 0, .int 0, .int 0, .int 1, .int 0, .int 0, .int 0]))] : va_W)) [0, 1] (by decide) rfl).weaken (fun _ _ _ _ => trivial)) (k_isOne l D k ad bv _) gV_RX6_182 (by decide +kernel) rfl rfl ⟨Nat.le_of_ble_eq_true rfl, Nat.le_of_ble_eq_true rfl⟩ rfl rfl rfl rfl (Nat.le_of_ble_eq_true rfl) dX6_lives_9 ⟨Nat.le_of_ble_eq_true rfl, Nat.le_of_ble_eq_true rfl⟩) (fun r_5 H locs c_4 hP hS => ?_)
    have c_4 : r_5 = 0 := c_4
    subst c_4
    refine lv_if_eq (tgt := 25) hx hb dX6_lives_12 (by decide) (fun c_6 => ?_) (fun c_6 => absurd (by decide) c_6)
    refine lv_aload_n hx hb dX6_lives_25 rfl (lv_at hl 0 rfl) ?_
    refine lv_bipush (v := (-2)) hx hb dX6_lives_26 (by decide) ?_
    refine gx_ei (wc := ([((ad 0), .inr (4, [.ref (ad 1), .ref (ad 2), .ref (ad 3), .ref (ad 4), .ref (ad 5), .ref (ad 6), .ref (ad 7), .ref (ad 8), .ref (ad 9), .int 0])), ((ad 9), .inl (k 0, 5, .inl (fun _ => 0)))] : va_W)) (wr := [((ad 1), .inr (0, [.ref (ad 10), .ref (ad 11), .ref (ad 12), .ref (ad 13), .ref (ad 14), .ref (ad 15), .ref (ad 16), .ref (ad 17), .ref (ad 18), .int 0, .int 0, .int 0, .int 0, .int 1, .int 0, .int 0, .int 0]))]) (isC := [0, 2]) (isR := [1]) hP hD hS hA rfl rfl (by decide) (by decide) (gx_runV (na := 1) (As := [.int (-2)]) (rest := []) (ci := 4) C hl.1 hK (gx_subP (wc := ([((ad 0), .inr (4, [.ref (ad 1), .ref (ad 2), .ref (ad 3), .ref (ad 4), .ref (ad 5), .ref (ad 6), .ref (ad 7), .ref (ad 8), .ref (ad 9), .int 0])), ((ad 9), .inl (k 0, 5, .inl (fun _ => 0)))] : va_W)) hP [0, 2] rfl) ((hD.sub (ws' := ([((ad 0), .inr (4, [.ref (ad 1), .ref (ad 2), .ref (ad 3), .ref (ad 4), .ref (ad 5), .ref (ad 6), .ref (ad 7), .ref (ad 8), .ref (ad 9), .int 0])), ((ad 9), .inl (k 0, 5, .inl (fun _ => 0)))] : va_W)) [0, 2] (by decide) rfl).weaken (fun _ _ _ _ => trivial)) (k_refuse2 l D k ad _) gV_RX6_61 (by decide +kernel) rfl rfl ⟨Nat.le_of_ble_eq_true rfl, Nat.le_of_ble_eq_true rfl⟩ rfl rfl rfl rfl (Nat.le_of_ble_eq_true rfl) dX6_lives_28 ⟨Nat.le_of_ble_eq_true rfl, Nat.le_of_ble_eq_true rfl⟩) (fun r_9 u_7 H locs h_8 hP hD hS => ?_)
    have h_8 : r_9 = -2 := h_8
    have hP : va_P D gx_cl [((ad 1), .inr (0, [.ref (ad 10), .ref (ad 11), .ref (ad 12), .ref (ad 13), .ref (ad 14), .ref (ad 15), .ref (ad 16), .ref (ad 17), .ref (ad 18), .int 0, .int 0, .int 0, .int 0, .int 1, .int 0, .int 0, .int 0]))] H := hP
    have hD : va_D A [((ad 1), .inr (0, [.ref (ad 10), .ref (ad 11), .ref (ad 12), .ref (ad 13), .ref (ad 14), .ref (ad 15), .ref (ad 16), .ref (ad 17), .ref (ad 18), .int 0, .int 0, .int 0, .int 0, .int 1, .int 0, .int 0, .int 0]))] := hD
    have eh_8 := h_8
    subst eh_8
    exact gx_retI C (u := ()) gx_nil gx_noneD hS (rfl) dX6_lives_31
  · refine lv_if_eq (tgt := 25) hx hb dX6_lives_4 (by decide) (fun c_11 => ?_) (fun c_11 => absurd (by decide) c_11)
    refine lv_aload_n hx hb dX6_lives_25 rfl (lv_at hl 0 rfl) ?_
    refine lv_bipush (v := (-2)) hx hb dX6_lives_26 (by decide) ?_
    refine gx_ei (wc := ([((ad 0), .inr (4, [.ref (ad 1), .ref (ad 2), .ref (ad 3), .ref (ad 4), .ref (ad 5), .ref (ad 6), .ref (ad 7), .ref (ad 8), .ref (ad 9), .int 0])), ((ad 9), .inl (k 0, 5, .inl (fun _ => 0)))] : va_W)) (wr := [((ad 1), .inr (0, [.ref (ad 10), .ref (ad 11), .ref (ad 12), .ref (ad 13), .ref (ad 14), .ref (ad 15), .ref (ad 16), .ref (ad 17), .ref (ad 18), .int 0, .int 0, .int 0, .int 0, .int 1, .int 0, .int 0, .int 0]))]) (isC := [0, 2]) (isR := [1]) hP hD hS hA rfl rfl (by decide) (by decide) (gx_runV (na := 1) (As := [.int (-2)]) (rest := []) (ci := 4) C hl.1 hK (gx_subP (wc := ([((ad 0), .inr (4, [.ref (ad 1), .ref (ad 2), .ref (ad 3), .ref (ad 4), .ref (ad 5), .ref (ad 6), .ref (ad 7), .ref (ad 8), .ref (ad 9), .int 0])), ((ad 9), .inl (k 0, 5, .inl (fun _ => 0)))] : va_W)) hP [0, 2] rfl) ((hD.sub (ws' := ([((ad 0), .inr (4, [.ref (ad 1), .ref (ad 2), .ref (ad 3), .ref (ad 4), .ref (ad 5), .ref (ad 6), .ref (ad 7), .ref (ad 8), .ref (ad 9), .int 0])), ((ad 9), .inl (k 0, 5, .inl (fun _ => 0)))] : va_W)) [0, 2] (by decide) rfl).weaken (fun _ _ _ _ => trivial)) (k_refuse2 l D k ad _) gV_RX6_61 (by decide +kernel) rfl rfl ⟨Nat.le_of_ble_eq_true rfl, Nat.le_of_ble_eq_true rfl⟩ rfl rfl rfl rfl (Nat.le_of_ble_eq_true rfl) dX6_lives_28 ⟨Nat.le_of_ble_eq_true rfl, Nat.le_of_ble_eq_true rfl⟩) (fun r_14 u_12 H locs h_13 hP hD hS => ?_)
    have h_13 : r_14 = -2 := h_13
    have hP : va_P D gx_cl [((ad 1), .inr (0, [.ref (ad 10), .ref (ad 11), .ref (ad 12), .ref (ad 13), .ref (ad 14), .ref (ad 15), .ref (ad 16), .ref (ad 17), .ref (ad 18), .int 0, .int 0, .int 0, .int 0, .int 1, .int 0, .int 0, .int 0]))] H := hP
    have hD : va_D A [((ad 1), .inr (0, [.ref (ad 10), .ref (ad 11), .ref (ad 12), .ref (ad 13), .ref (ad 14), .ref (ad 15), .ref (ad 16), .ref (ad 17), .ref (ad 18), .int 0, .int 0, .int 0, .int 0, .int 1, .int 0, .int 0, .int 0]))] := hD
    have eh_13 := h_13
    subst eh_13
    exact gx_retI C (u := ()) gx_nil gx_noneD hS (rfl) dX6_lives_31
set_option maxHeartbeats 4000000 in
set_option maxRecDepth 100000 in
theorem x_judge (l : Launch) (D : va_G) (k : Nat → ClassId) (ad : Nat → Nat) (av : Int32) (bv : Int32) (cv : Int32) (sz : Nat) : Met l yX6_judge (.code yX6_judge cX6_judge 5 (some .int) :: gx_T) ({ frames := 2, cells := 0, slots := 0, locals := 43 }) (gx_Pre D k [.ref (ad 0), .int av, .int bv, .int cv] ([((ad 0), .inr (4, [.ref (ad 1), .ref (ad 2), .ref (ad 3), .ref (ad 4), .ref (ad 5), .ref (ad 6), .ref (ad 7), .ref (ad 8), .ref (ad 9), .int 0])), ((ad 1), .inr (0, [.ref (ad 10), .ref (ad 11), .ref (ad 12), .ref (ad 13), .ref (ad 14), .ref (ad 15), .ref (ad 16), .ref (ad 17), .ref (ad 18), .int 0, .int 0, .int 0, .int 0, .int 1, .int 0, .int 0, .int 0])), ((ad 9), .inl (k 0, 5, .inl (fun _ => 0)))]) sz) (gx_Qi D (fun (r : Int32) (u : Unit) => r = -2) (fun (u : Unit) => ([] : va_W)) (va_A ([((ad 0), .inr (4, [.ref (ad 1), .ref (ad 2), .ref (ad 3), .ref (ad 4), .ref (ad 5), .ref (ad 6), .ref (ad 7), .ref (ad 8), .ref (ad 9), .int 0])), ((ad 1), .inr (0, [.ref (ad 10), .ref (ad 11), .ref (ad 12), .ref (ad 13), .ref (ad 14), .ref (ad 15), .ref (ad 16), .ref (ad 17), .ref (ad 18), .int 0, .int 0, .int 0, .int 0, .int 1, .int 0, .int 0, .int 0])), ((ad 9), .inl (k 0, 5, .inl (fun _ => 0)))]) sz)) 0 0 (va_A ([((ad 0), .inr (4, [.ref (ad 1), .ref (ad 2), .ref (ad 3), .ref (ad 4), .ref (ad 5), .ref (ad 6), .ref (ad 7), .ref (ad 8), .ref (ad 9), .int 0])), ((ad 1), .inr (0, [.ref (ad 10), .ref (ad 11), .ref (ad 12), .ref (ad 13), .ref (ad 14), .ref (ad 15), .ref (ad 16), .ref (ad 17), .ref (ad 18), .int 0, .int 0, .int 0, .int 0, .int 1, .int 0, .int 0, .int 0])), ((ad 9), .inl (k 0, 5, .inl (fun _ => 0)))]) sz) := by
  refine gx_metE (Qc := fun A => gx_Qi D (fun (r : Int32) (u : Unit) => r = -2) (fun (u : Unit) => ([] : va_W)) A) (y := yX6_judge) (cc := cX6_judge) (n := 5) (ret := (some .int)) (av := [.ref (ad 0), .int av, .int bv, .int cv]) (by decide) (Nat.le_of_ble_eq_true rfl) ?_
  intro p e s m below meth c A ls C hA hP hD hK hS hl
  obtain ⟨hx, hb, hr, hml, hown, hT, hlk, hin⟩ := id C
  have hown : s.vm.findClass RX6 = some m.cls := hown
  have hl : lv_has ls 5 [(0, .ref (ad 0)), (1, .int av), (2, .int bv), (3, .int cv)] := hl
  refine lv_aload_n hx hb dX6_judge_0 rfl (lv_at hl 0 rfl) ?_
  refine lv_iload_n hx hb dX6_judge_1 rfl (lv_at hl 1 rfl) ?_
  refine gx_pi hP hS (gx_runV (na := 1) (As := [.int av]) (rest := []) (ci := 4) C hl.1 hK (gx_subP (wc := ([((ad 0), .inr (4, [.ref (ad 1), .ref (ad 2), .ref (ad 3), .ref (ad 4), .ref (ad 5), .ref (ad 6), .ref (ad 7), .ref (ad 8), .ref (ad 9), .int 0])), ((ad 1), .inr (0, [.ref (ad 10), .ref (ad 11), .ref (ad 12), .ref (ad 13), .ref (ad 14), .ref (ad 15), .ref (ad 16), .ref (ad 17), .ref (ad 18), .int 0, .int 0, .int 0, .int 0, .int 1, .int 0, .int 0, .int 0]))] : va_W)) hP [0, 1] rfl) ((hD.sub (ws' := ([((ad 0), .inr (4, [.ref (ad 1), .ref (ad 2), .ref (ad 3), .ref (ad 4), .ref (ad 5), .ref (ad 6), .ref (ad 7), .ref (ad 8), .ref (ad 9), .int 0])), ((ad 1), .inr (0, [.ref (ad 10), .ref (ad 11), .ref (ad 12), .ref (ad 13), .ref (ad 14), .ref (ad 15), .ref (ad 16), .ref (ad 17), .ref (ad 18), .int 0, .int 0, .int 0, .int 0, .int 1, .int 0, .int 0, .int 0]))] : va_W)) [0, 1] (by decide) rfl).weaken (fun _ _ _ _ => trivial)) (k_isOne l D k ad av _) gV_RX6_182 (by decide +kernel) rfl rfl ⟨Nat.le_of_ble_eq_true rfl, Nat.le_of_ble_eq_true rfl⟩ rfl rfl rfl rfl (Nat.le_of_ble_eq_true rfl) dX6_judge_2 ⟨Nat.le_of_ble_eq_true rfl, Nat.le_of_ble_eq_true rfl⟩) (fun r_2 H locs c_1 hP hS => ?_)
  have c_1 : r_2 = 0 := c_1
  subst c_1
  refine lv_if_eq (tgt := 25) hx hb dX6_judge_5 (by decide) (fun c_3 => ?_) (fun c_3 => absurd (by decide) c_3)
  refine lv_aload_n hx hb dX6_judge_25 rfl (lv_at hl 0 rfl) ?_
  refine lv_bipush (v := (-2)) hx hb dX6_judge_26 (by decide) ?_
  refine gx_ei (wc := ([((ad 0), .inr (4, [.ref (ad 1), .ref (ad 2), .ref (ad 3), .ref (ad 4), .ref (ad 5), .ref (ad 6), .ref (ad 7), .ref (ad 8), .ref (ad 9), .int 0])), ((ad 9), .inl (k 0, 5, .inl (fun _ => 0)))] : va_W)) (wr := [((ad 1), .inr (0, [.ref (ad 10), .ref (ad 11), .ref (ad 12), .ref (ad 13), .ref (ad 14), .ref (ad 15), .ref (ad 16), .ref (ad 17), .ref (ad 18), .int 0, .int 0, .int 0, .int 0, .int 1, .int 0, .int 0, .int 0]))]) (isC := [0, 2]) (isR := [1]) hP hD hS hA rfl rfl (by decide) (by decide) (gx_runV (na := 1) (As := [.int (-2)]) (rest := []) (ci := 4) C hl.1 hK (gx_subP (wc := ([((ad 0), .inr (4, [.ref (ad 1), .ref (ad 2), .ref (ad 3), .ref (ad 4), .ref (ad 5), .ref (ad 6), .ref (ad 7), .ref (ad 8), .ref (ad 9), .int 0])), ((ad 9), .inl (k 0, 5, .inl (fun _ => 0)))] : va_W)) hP [0, 2] rfl) ((hD.sub (ws' := ([((ad 0), .inr (4, [.ref (ad 1), .ref (ad 2), .ref (ad 3), .ref (ad 4), .ref (ad 5), .ref (ad 6), .ref (ad 7), .ref (ad 8), .ref (ad 9), .int 0])), ((ad 9), .inl (k 0, 5, .inl (fun _ => 0)))] : va_W)) [0, 2] (by decide) rfl).weaken (fun _ _ _ _ => trivial)) (k_refuse2 l D k ad _) gV_RX6_61 (by decide +kernel) rfl rfl ⟨Nat.le_of_ble_eq_true rfl, Nat.le_of_ble_eq_true rfl⟩ rfl rfl rfl rfl (Nat.le_of_ble_eq_true rfl) dX6_judge_28 ⟨Nat.le_of_ble_eq_true rfl, Nat.le_of_ble_eq_true rfl⟩) (fun r_6 u_4 H locs h_5 hP hD hS => ?_)
  have h_5 : r_6 = -2 := h_5
  have hP : va_P D gx_cl [((ad 1), .inr (0, [.ref (ad 10), .ref (ad 11), .ref (ad 12), .ref (ad 13), .ref (ad 14), .ref (ad 15), .ref (ad 16), .ref (ad 17), .ref (ad 18), .int 0, .int 0, .int 0, .int 0, .int 1, .int 0, .int 0, .int 0]))] H := hP
  have hD : va_D A [((ad 1), .inr (0, [.ref (ad 10), .ref (ad 11), .ref (ad 12), .ref (ad 13), .ref (ad 14), .ref (ad 15), .ref (ad 16), .ref (ad 17), .ref (ad 18), .int 0, .int 0, .int 0, .int 0, .int 1, .int 0, .int 0, .int 0]))] := hD
  have eh_5 := h_5
  subst eh_5
  exact gx_retI C (u := ()) gx_nil gx_noneD hS (rfl) dX6_judge_31
set_option maxHeartbeats 4000000 in
set_option maxRecDepth 100000 in
theorem x_told (l : Launch) (D : va_G) (k : Nat → ClassId) (ad : Nat → Nat) (av : Int32) (bv : Int32) (cv : Int32) (dv : Int32) (sz : Nat) : Met l yX6_told (.code yX6_told cX6_told 6 (some .int) :: gx_T) ({ frames := 2, cells := 0, slots := 0, locals := 43 }) (gx_Pre D k [.ref (ad 0), .int av, .int bv, .int cv, .int dv] ([((ad 0), .inr (4, [.ref (ad 1), .ref (ad 2), .ref (ad 3), .ref (ad 4), .ref (ad 5), .ref (ad 6), .ref (ad 7), .ref (ad 8), .ref (ad 9), .int 0])), ((ad 1), .inr (0, [.ref (ad 10), .ref (ad 11), .ref (ad 12), .ref (ad 13), .ref (ad 14), .ref (ad 15), .ref (ad 16), .ref (ad 17), .ref (ad 18), .int 0, .int 0, .int 0, .int 0, .int 1, .int 0, .int 0, .int 0])), ((ad 9), .inl (k 0, 5, .inl (fun _ => 0)))]) sz) (gx_Qi D (fun (r : Int32) (u : Unit) => r = -2) (fun (u : Unit) => ([] : va_W)) (va_A ([((ad 0), .inr (4, [.ref (ad 1), .ref (ad 2), .ref (ad 3), .ref (ad 4), .ref (ad 5), .ref (ad 6), .ref (ad 7), .ref (ad 8), .ref (ad 9), .int 0])), ((ad 1), .inr (0, [.ref (ad 10), .ref (ad 11), .ref (ad 12), .ref (ad 13), .ref (ad 14), .ref (ad 15), .ref (ad 16), .ref (ad 17), .ref (ad 18), .int 0, .int 0, .int 0, .int 0, .int 1, .int 0, .int 0, .int 0])), ((ad 9), .inl (k 0, 5, .inl (fun _ => 0)))]) sz)) 0 0 (va_A ([((ad 0), .inr (4, [.ref (ad 1), .ref (ad 2), .ref (ad 3), .ref (ad 4), .ref (ad 5), .ref (ad 6), .ref (ad 7), .ref (ad 8), .ref (ad 9), .int 0])), ((ad 1), .inr (0, [.ref (ad 10), .ref (ad 11), .ref (ad 12), .ref (ad 13), .ref (ad 14), .ref (ad 15), .ref (ad 16), .ref (ad 17), .ref (ad 18), .int 0, .int 0, .int 0, .int 0, .int 1, .int 0, .int 0, .int 0])), ((ad 9), .inl (k 0, 5, .inl (fun _ => 0)))]) sz) := by
  refine gx_metE (Qc := fun A => gx_Qi D (fun (r : Int32) (u : Unit) => r = -2) (fun (u : Unit) => ([] : va_W)) A) (y := yX6_told) (cc := cX6_told) (n := 6) (ret := (some .int)) (av := [.ref (ad 0), .int av, .int bv, .int cv, .int dv]) (by decide) (Nat.le_of_ble_eq_true rfl) ?_
  intro p e s m below meth c A ls C hA hP hD hK hS hl
  obtain ⟨hx, hb, hr, hml, hown, hT, hlk, hin⟩ := id C
  have hown : s.vm.findClass RX6 = some m.cls := hown
  have hl : lv_has ls 6 [(0, .ref (ad 0)), (1, .int av), (2, .int bv), (3, .int cv), (4, .int dv)] := hl
  refine lv_aload_n hx hb dX6_told_0 rfl (lv_at hl 0 rfl) ?_
  refine lv_iload_n hx hb dX6_told_1 rfl (lv_at hl 1 rfl) ?_
  refine gx_pi hP hS (gx_runV (na := 1) (As := [.int av]) (rest := []) (ci := 4) C hl.1 hK (gx_subP (wc := ([((ad 0), .inr (4, [.ref (ad 1), .ref (ad 2), .ref (ad 3), .ref (ad 4), .ref (ad 5), .ref (ad 6), .ref (ad 7), .ref (ad 8), .ref (ad 9), .int 0])), ((ad 1), .inr (0, [.ref (ad 10), .ref (ad 11), .ref (ad 12), .ref (ad 13), .ref (ad 14), .ref (ad 15), .ref (ad 16), .ref (ad 17), .ref (ad 18), .int 0, .int 0, .int 0, .int 0, .int 1, .int 0, .int 0, .int 0]))] : va_W)) hP [0, 1] rfl) ((hD.sub (ws' := ([((ad 0), .inr (4, [.ref (ad 1), .ref (ad 2), .ref (ad 3), .ref (ad 4), .ref (ad 5), .ref (ad 6), .ref (ad 7), .ref (ad 8), .ref (ad 9), .int 0])), ((ad 1), .inr (0, [.ref (ad 10), .ref (ad 11), .ref (ad 12), .ref (ad 13), .ref (ad 14), .ref (ad 15), .ref (ad 16), .ref (ad 17), .ref (ad 18), .int 0, .int 0, .int 0, .int 0, .int 1, .int 0, .int 0, .int 0]))] : va_W)) [0, 1] (by decide) rfl).weaken (fun _ _ _ _ => trivial)) (k_isOne l D k ad av _) gV_RX6_182 (by decide +kernel) rfl rfl ⟨Nat.le_of_ble_eq_true rfl, Nat.le_of_ble_eq_true rfl⟩ rfl rfl rfl rfl (Nat.le_of_ble_eq_true rfl) dX6_told_2 ⟨Nat.le_of_ble_eq_true rfl, Nat.le_of_ble_eq_true rfl⟩) (fun r_2 H locs c_1 hP hS => ?_)
  have c_1 : r_2 = 0 := c_1
  subst c_1
  refine lv_if_eq (tgt := 35) hx hb dX6_told_5 (by decide) (fun c_3 => ?_) (fun c_3 => absurd (by decide) c_3)
  refine lv_aload_n hx hb dX6_told_35 rfl (lv_at hl 0 rfl) ?_
  refine lv_bipush (v := (-2)) hx hb dX6_told_36 (by decide) ?_
  refine gx_ei (wc := ([((ad 0), .inr (4, [.ref (ad 1), .ref (ad 2), .ref (ad 3), .ref (ad 4), .ref (ad 5), .ref (ad 6), .ref (ad 7), .ref (ad 8), .ref (ad 9), .int 0])), ((ad 9), .inl (k 0, 5, .inl (fun _ => 0)))] : va_W)) (wr := [((ad 1), .inr (0, [.ref (ad 10), .ref (ad 11), .ref (ad 12), .ref (ad 13), .ref (ad 14), .ref (ad 15), .ref (ad 16), .ref (ad 17), .ref (ad 18), .int 0, .int 0, .int 0, .int 0, .int 1, .int 0, .int 0, .int 0]))]) (isC := [0, 2]) (isR := [1]) hP hD hS hA rfl rfl (by decide) (by decide) (gx_runV (na := 1) (As := [.int (-2)]) (rest := []) (ci := 4) C hl.1 hK (gx_subP (wc := ([((ad 0), .inr (4, [.ref (ad 1), .ref (ad 2), .ref (ad 3), .ref (ad 4), .ref (ad 5), .ref (ad 6), .ref (ad 7), .ref (ad 8), .ref (ad 9), .int 0])), ((ad 9), .inl (k 0, 5, .inl (fun _ => 0)))] : va_W)) hP [0, 2] rfl) ((hD.sub (ws' := ([((ad 0), .inr (4, [.ref (ad 1), .ref (ad 2), .ref (ad 3), .ref (ad 4), .ref (ad 5), .ref (ad 6), .ref (ad 7), .ref (ad 8), .ref (ad 9), .int 0])), ((ad 9), .inl (k 0, 5, .inl (fun _ => 0)))] : va_W)) [0, 2] (by decide) rfl).weaken (fun _ _ _ _ => trivial)) (k_refuse2 l D k ad _) gV_RX6_61 (by decide +kernel) rfl rfl ⟨Nat.le_of_ble_eq_true rfl, Nat.le_of_ble_eq_true rfl⟩ rfl rfl rfl rfl (Nat.le_of_ble_eq_true rfl) dX6_told_38 ⟨Nat.le_of_ble_eq_true rfl, Nat.le_of_ble_eq_true rfl⟩) (fun r_6 u_4 H locs h_5 hP hD hS => ?_)
  have h_5 : r_6 = -2 := h_5
  have hP : va_P D gx_cl [((ad 1), .inr (0, [.ref (ad 10), .ref (ad 11), .ref (ad 12), .ref (ad 13), .ref (ad 14), .ref (ad 15), .ref (ad 16), .ref (ad 17), .ref (ad 18), .int 0, .int 0, .int 0, .int 0, .int 1, .int 0, .int 0, .int 0]))] H := hP
  have hD : va_D A [((ad 1), .inr (0, [.ref (ad 10), .ref (ad 11), .ref (ad 12), .ref (ad 13), .ref (ad 14), .ref (ad 15), .ref (ad 16), .ref (ad 17), .ref (ad 18), .int 0, .int 0, .int 0, .int 0, .int 1, .int 0, .int 0, .int 0]))] := hD
  have eh_5 := h_5
  subst eh_5
  exact gx_retI C (u := ()) gx_nil gx_noneD hS (rfl) dX6_told_41
set_option maxHeartbeats 4000000 in
set_option maxRecDepth 100000 in
theorem x_law (l : Launch) (D : va_G) (k : Nat → ClassId) (ad : Nat → Nat) (av : Int32) (bv : Int32) (sz : Nat) : Met l yX6_law (.code yX6_law cX6_law 4 (some .int) :: gx_T) ({ frames := 2, cells := 0, slots := 0, locals := 43 }) (gx_Pre D k [.ref (ad 0), .int av, .int bv] ([((ad 0), .inr (4, [.ref (ad 1), .ref (ad 2), .ref (ad 3), .ref (ad 4), .ref (ad 5), .ref (ad 6), .ref (ad 7), .ref (ad 8), .ref (ad 9), .int 0])), ((ad 1), .inr (0, [.ref (ad 10), .ref (ad 11), .ref (ad 12), .ref (ad 13), .ref (ad 14), .ref (ad 15), .ref (ad 16), .ref (ad 17), .ref (ad 18), .int 0, .int 0, .int 0, .int 0, .int 1, .int 0, .int 0, .int 0])), ((ad 9), .inl (k 0, 5, .inl (fun _ => 0)))]) sz) (gx_Qi D (fun (r : Int32) (u : Unit) => r = -2) (fun (u : Unit) => ([] : va_W)) (va_A ([((ad 0), .inr (4, [.ref (ad 1), .ref (ad 2), .ref (ad 3), .ref (ad 4), .ref (ad 5), .ref (ad 6), .ref (ad 7), .ref (ad 8), .ref (ad 9), .int 0])), ((ad 1), .inr (0, [.ref (ad 10), .ref (ad 11), .ref (ad 12), .ref (ad 13), .ref (ad 14), .ref (ad 15), .ref (ad 16), .ref (ad 17), .ref (ad 18), .int 0, .int 0, .int 0, .int 0, .int 1, .int 0, .int 0, .int 0])), ((ad 9), .inl (k 0, 5, .inl (fun _ => 0)))]) sz)) 0 0 (va_A ([((ad 0), .inr (4, [.ref (ad 1), .ref (ad 2), .ref (ad 3), .ref (ad 4), .ref (ad 5), .ref (ad 6), .ref (ad 7), .ref (ad 8), .ref (ad 9), .int 0])), ((ad 1), .inr (0, [.ref (ad 10), .ref (ad 11), .ref (ad 12), .ref (ad 13), .ref (ad 14), .ref (ad 15), .ref (ad 16), .ref (ad 17), .ref (ad 18), .int 0, .int 0, .int 0, .int 0, .int 1, .int 0, .int 0, .int 0])), ((ad 9), .inl (k 0, 5, .inl (fun _ => 0)))]) sz) := by
  refine gx_metE (Qc := fun A => gx_Qi D (fun (r : Int32) (u : Unit) => r = -2) (fun (u : Unit) => ([] : va_W)) A) (y := yX6_law) (cc := cX6_law) (n := 4) (ret := (some .int)) (av := [.ref (ad 0), .int av, .int bv]) (by decide) (Nat.le_of_ble_eq_true rfl) ?_
  intro p e s m below meth c A ls C hA hP hD hK hS hl
  obtain ⟨hx, hb, hr, hml, hown, hT, hlk, hin⟩ := id C
  have hown : s.vm.findClass RX6 = some m.cls := hown
  have hl : lv_has ls 4 [(0, .ref (ad 0)), (1, .int av), (2, .int bv)] := hl
  refine lv_aload_n hx hb dX6_law_0 rfl (lv_at hl 0 rfl) ?_
  refine lv_iload_n hx hb dX6_law_1 rfl (lv_at hl 1 rfl) ?_
  refine gx_pi hP hS (gx_runV (na := 1) (As := [.int av]) (rest := []) (ci := 4) C hl.1 hK (gx_subP (wc := ([((ad 0), .inr (4, [.ref (ad 1), .ref (ad 2), .ref (ad 3), .ref (ad 4), .ref (ad 5), .ref (ad 6), .ref (ad 7), .ref (ad 8), .ref (ad 9), .int 0])), ((ad 1), .inr (0, [.ref (ad 10), .ref (ad 11), .ref (ad 12), .ref (ad 13), .ref (ad 14), .ref (ad 15), .ref (ad 16), .ref (ad 17), .ref (ad 18), .int 0, .int 0, .int 0, .int 0, .int 1, .int 0, .int 0, .int 0]))] : va_W)) hP [0, 1] rfl) ((hD.sub (ws' := ([((ad 0), .inr (4, [.ref (ad 1), .ref (ad 2), .ref (ad 3), .ref (ad 4), .ref (ad 5), .ref (ad 6), .ref (ad 7), .ref (ad 8), .ref (ad 9), .int 0])), ((ad 1), .inr (0, [.ref (ad 10), .ref (ad 11), .ref (ad 12), .ref (ad 13), .ref (ad 14), .ref (ad 15), .ref (ad 16), .ref (ad 17), .ref (ad 18), .int 0, .int 0, .int 0, .int 0, .int 1, .int 0, .int 0, .int 0]))] : va_W)) [0, 1] (by decide) rfl).weaken (fun _ _ _ _ => trivial)) (k_isOne l D k ad av _) gV_RX6_182 (by decide +kernel) rfl rfl ⟨Nat.le_of_ble_eq_true rfl, Nat.le_of_ble_eq_true rfl⟩ rfl rfl rfl rfl (Nat.le_of_ble_eq_true rfl) dX6_law_2 ⟨Nat.le_of_ble_eq_true rfl, Nat.le_of_ble_eq_true rfl⟩) (fun r_2 H locs c_1 hP hS => ?_)
  have c_1 : r_2 = 0 := c_1
  subst c_1
  refine lv_if_eq (tgt := 17) hx hb dX6_law_5 (by decide) (fun c_3 => ?_) (fun c_3 => absurd (by decide) c_3)
  refine lv_aload_n hx hb dX6_law_17 rfl (lv_at hl 0 rfl) ?_
  refine lv_bipush (v := (-2)) hx hb dX6_law_18 (by decide) ?_
  refine gx_ei (wc := ([((ad 0), .inr (4, [.ref (ad 1), .ref (ad 2), .ref (ad 3), .ref (ad 4), .ref (ad 5), .ref (ad 6), .ref (ad 7), .ref (ad 8), .ref (ad 9), .int 0])), ((ad 9), .inl (k 0, 5, .inl (fun _ => 0)))] : va_W)) (wr := [((ad 1), .inr (0, [.ref (ad 10), .ref (ad 11), .ref (ad 12), .ref (ad 13), .ref (ad 14), .ref (ad 15), .ref (ad 16), .ref (ad 17), .ref (ad 18), .int 0, .int 0, .int 0, .int 0, .int 1, .int 0, .int 0, .int 0]))]) (isC := [0, 2]) (isR := [1]) hP hD hS hA rfl rfl (by decide) (by decide) (gx_runV (na := 1) (As := [.int (-2)]) (rest := []) (ci := 4) C hl.1 hK (gx_subP (wc := ([((ad 0), .inr (4, [.ref (ad 1), .ref (ad 2), .ref (ad 3), .ref (ad 4), .ref (ad 5), .ref (ad 6), .ref (ad 7), .ref (ad 8), .ref (ad 9), .int 0])), ((ad 9), .inl (k 0, 5, .inl (fun _ => 0)))] : va_W)) hP [0, 2] rfl) ((hD.sub (ws' := ([((ad 0), .inr (4, [.ref (ad 1), .ref (ad 2), .ref (ad 3), .ref (ad 4), .ref (ad 5), .ref (ad 6), .ref (ad 7), .ref (ad 8), .ref (ad 9), .int 0])), ((ad 9), .inl (k 0, 5, .inl (fun _ => 0)))] : va_W)) [0, 2] (by decide) rfl).weaken (fun _ _ _ _ => trivial)) (k_refuse2 l D k ad _) gV_RX6_61 (by decide +kernel) rfl rfl ⟨Nat.le_of_ble_eq_true rfl, Nat.le_of_ble_eq_true rfl⟩ rfl rfl rfl rfl (Nat.le_of_ble_eq_true rfl) dX6_law_20 ⟨Nat.le_of_ble_eq_true rfl, Nat.le_of_ble_eq_true rfl⟩) (fun r_6 u_4 H locs h_5 hP hD hS => ?_)
  have h_5 : r_6 = -2 := h_5
  have hP : va_P D gx_cl [((ad 1), .inr (0, [.ref (ad 10), .ref (ad 11), .ref (ad 12), .ref (ad 13), .ref (ad 14), .ref (ad 15), .ref (ad 16), .ref (ad 17), .ref (ad 18), .int 0, .int 0, .int 0, .int 0, .int 1, .int 0, .int 0, .int 0]))] H := hP
  have hD : va_D A [((ad 1), .inr (0, [.ref (ad 10), .ref (ad 11), .ref (ad 12), .ref (ad 13), .ref (ad 14), .ref (ad 15), .ref (ad 16), .ref (ad 17), .ref (ad 18), .int 0, .int 0, .int 0, .int 0, .int 1, .int 0, .int 0, .int 0]))] := hD
  have eh_5 := h_5
  subst eh_5
  exact gx_retI C (u := ()) gx_nil gx_noneD hS (rfl) dX6_law_23
set_option maxHeartbeats 4000000 in
set_option maxRecDepth 100000 in
theorem x_all (l : Launch) (D : va_G) (k : Nat → ClassId) (ad : Nat → Nat) (av : Int32) (sz : Nat) : Met l yX6_all (.code yX6_all cX6_all 2 (some .int) :: gx_T) ({ frames := 2, cells := 0, slots := 0, locals := 43 }) (gx_Pre D k [.ref (ad 0), .int av] ([((ad 0), .inr (4, [.ref (ad 1), .ref (ad 2), .ref (ad 3), .ref (ad 4), .ref (ad 5), .ref (ad 6), .ref (ad 7), .ref (ad 8), .ref (ad 9), .int 0])), ((ad 1), .inr (0, [.ref (ad 10), .ref (ad 11), .ref (ad 12), .ref (ad 13), .ref (ad 14), .ref (ad 15), .ref (ad 16), .ref (ad 17), .ref (ad 18), .int 0, .int 0, .int 0, .int 0, .int 1, .int 0, .int 0, .int 0])), ((ad 9), .inl (k 0, 5, .inl (fun _ => 0)))]) sz) (gx_Qi D (fun (r : Int32) (u : Unit) => r = -2) (fun (u : Unit) => ([] : va_W)) (va_A ([((ad 0), .inr (4, [.ref (ad 1), .ref (ad 2), .ref (ad 3), .ref (ad 4), .ref (ad 5), .ref (ad 6), .ref (ad 7), .ref (ad 8), .ref (ad 9), .int 0])), ((ad 1), .inr (0, [.ref (ad 10), .ref (ad 11), .ref (ad 12), .ref (ad 13), .ref (ad 14), .ref (ad 15), .ref (ad 16), .ref (ad 17), .ref (ad 18), .int 0, .int 0, .int 0, .int 0, .int 1, .int 0, .int 0, .int 0])), ((ad 9), .inl (k 0, 5, .inl (fun _ => 0)))]) sz)) 0 0 (va_A ([((ad 0), .inr (4, [.ref (ad 1), .ref (ad 2), .ref (ad 3), .ref (ad 4), .ref (ad 5), .ref (ad 6), .ref (ad 7), .ref (ad 8), .ref (ad 9), .int 0])), ((ad 1), .inr (0, [.ref (ad 10), .ref (ad 11), .ref (ad 12), .ref (ad 13), .ref (ad 14), .ref (ad 15), .ref (ad 16), .ref (ad 17), .ref (ad 18), .int 0, .int 0, .int 0, .int 0, .int 1, .int 0, .int 0, .int 0])), ((ad 9), .inl (k 0, 5, .inl (fun _ => 0)))]) sz) := by
  refine gx_metE (Qc := fun A => gx_Qi D (fun (r : Int32) (u : Unit) => r = -2) (fun (u : Unit) => ([] : va_W)) A) (y := yX6_all) (cc := cX6_all) (n := 2) (ret := (some .int)) (av := [.ref (ad 0), .int av]) (by decide) (Nat.le_of_ble_eq_true rfl) ?_
  intro p e s m below meth c A ls C hA hP hD hK hS hl
  obtain ⟨hx, hb, hr, hml, hown, hT, hlk, hin⟩ := id C
  have hown : s.vm.findClass RX6 = some m.cls := hown
  have hl : lv_has ls 2 [(0, .ref (ad 0)), (1, .int av)] := hl
  refine lv_aload_n hx hb dX6_all_0 rfl (lv_at hl 0 rfl) ?_
  refine lv_iload_n hx hb dX6_all_1 rfl (lv_at hl 1 rfl) ?_
  refine gx_pi hP hS (gx_runV (na := 1) (As := [.int av]) (rest := []) (ci := 4) C hl.1 hK (gx_subP (wc := ([((ad 0), .inr (4, [.ref (ad 1), .ref (ad 2), .ref (ad 3), .ref (ad 4), .ref (ad 5), .ref (ad 6), .ref (ad 7), .ref (ad 8), .ref (ad 9), .int 0])), ((ad 1), .inr (0, [.ref (ad 10), .ref (ad 11), .ref (ad 12), .ref (ad 13), .ref (ad 14), .ref (ad 15), .ref (ad 16), .ref (ad 17), .ref (ad 18), .int 0, .int 0, .int 0, .int 0, .int 1, .int 0, .int 0, .int 0]))] : va_W)) hP [0, 1] rfl) ((hD.sub (ws' := ([((ad 0), .inr (4, [.ref (ad 1), .ref (ad 2), .ref (ad 3), .ref (ad 4), .ref (ad 5), .ref (ad 6), .ref (ad 7), .ref (ad 8), .ref (ad 9), .int 0])), ((ad 1), .inr (0, [.ref (ad 10), .ref (ad 11), .ref (ad 12), .ref (ad 13), .ref (ad 14), .ref (ad 15), .ref (ad 16), .ref (ad 17), .ref (ad 18), .int 0, .int 0, .int 0, .int 0, .int 1, .int 0, .int 0, .int 0]))] : va_W)) [0, 1] (by decide) rfl).weaken (fun _ _ _ _ => trivial)) (k_isOne l D k ad av _) gV_RX6_182 (by decide +kernel) rfl rfl ⟨Nat.le_of_ble_eq_true rfl, Nat.le_of_ble_eq_true rfl⟩ rfl rfl rfl rfl (Nat.le_of_ble_eq_true rfl) dX6_all_2 ⟨Nat.le_of_ble_eq_true rfl, Nat.le_of_ble_eq_true rfl⟩) (fun r_2 H locs c_1 hP hS => ?_)
  have c_1 : r_2 = 0 := c_1
  subst c_1
  refine lv_if_eq (tgt := 35) hx hb dX6_all_5 (by decide) (fun c_3 => ?_) (fun c_3 => absurd (by decide) c_3)
  refine lv_aload_n hx hb dX6_all_35 rfl (lv_at hl 0 rfl) ?_
  refine lv_bipush (v := (-2)) hx hb dX6_all_36 (by decide) ?_
  refine gx_ei (wc := ([((ad 0), .inr (4, [.ref (ad 1), .ref (ad 2), .ref (ad 3), .ref (ad 4), .ref (ad 5), .ref (ad 6), .ref (ad 7), .ref (ad 8), .ref (ad 9), .int 0])), ((ad 9), .inl (k 0, 5, .inl (fun _ => 0)))] : va_W)) (wr := [((ad 1), .inr (0, [.ref (ad 10), .ref (ad 11), .ref (ad 12), .ref (ad 13), .ref (ad 14), .ref (ad 15), .ref (ad 16), .ref (ad 17), .ref (ad 18), .int 0, .int 0, .int 0, .int 0, .int 1, .int 0, .int 0, .int 0]))]) (isC := [0, 2]) (isR := [1]) hP hD hS hA rfl rfl (by decide) (by decide) (gx_runV (na := 1) (As := [.int (-2)]) (rest := []) (ci := 4) C hl.1 hK (gx_subP (wc := ([((ad 0), .inr (4, [.ref (ad 1), .ref (ad 2), .ref (ad 3), .ref (ad 4), .ref (ad 5), .ref (ad 6), .ref (ad 7), .ref (ad 8), .ref (ad 9), .int 0])), ((ad 9), .inl (k 0, 5, .inl (fun _ => 0)))] : va_W)) hP [0, 2] rfl) ((hD.sub (ws' := ([((ad 0), .inr (4, [.ref (ad 1), .ref (ad 2), .ref (ad 3), .ref (ad 4), .ref (ad 5), .ref (ad 6), .ref (ad 7), .ref (ad 8), .ref (ad 9), .int 0])), ((ad 9), .inl (k 0, 5, .inl (fun _ => 0)))] : va_W)) [0, 2] (by decide) rfl).weaken (fun _ _ _ _ => trivial)) (k_refuse2 l D k ad _) gV_RX6_61 (by decide +kernel) rfl rfl ⟨Nat.le_of_ble_eq_true rfl, Nat.le_of_ble_eq_true rfl⟩ rfl rfl rfl rfl (Nat.le_of_ble_eq_true rfl) dX6_all_38 ⟨Nat.le_of_ble_eq_true rfl, Nat.le_of_ble_eq_true rfl⟩) (fun r_6 u_4 H locs h_5 hP hD hS => ?_)
  have h_5 : r_6 = -2 := h_5
  have hP : va_P D gx_cl [((ad 1), .inr (0, [.ref (ad 10), .ref (ad 11), .ref (ad 12), .ref (ad 13), .ref (ad 14), .ref (ad 15), .ref (ad 16), .ref (ad 17), .ref (ad 18), .int 0, .int 0, .int 0, .int 0, .int 1, .int 0, .int 0, .int 0]))] H := hP
  have hD : va_D A [((ad 1), .inr (0, [.ref (ad 10), .ref (ad 11), .ref (ad 12), .ref (ad 13), .ref (ad 14), .ref (ad 15), .ref (ad 16), .ref (ad 17), .ref (ad 18), .int 0, .int 0, .int 0, .int 0, .int 1, .int 0, .int 0, .int 0]))] := hD
  have eh_5 := h_5
  subst eh_5
  exact gx_retI C (u := ()) gx_nil gx_noneD hS (rfl) dX6_all_41
set_option maxHeartbeats 4000000 in
set_option maxRecDepth 100000 in
theorem x_way (l : Launch) (D : va_G) (k : Nat → ClassId) (ad : Nat → Nat) (av : Int32) (bv : Int32) (sz : Nat) : Met l yX6_way (.code yX6_way cX6_way 4 (some .int) :: gx_T) ({ frames := 2, cells := 0, slots := 0, locals := 43 }) (gx_Pre D k [.ref (ad 0), .int av, .int bv] ([((ad 0), .inr (4, [.ref (ad 1), .ref (ad 2), .ref (ad 3), .ref (ad 4), .ref (ad 5), .ref (ad 6), .ref (ad 7), .ref (ad 8), .ref (ad 9), .int 0])), ((ad 1), .inr (0, [.ref (ad 10), .ref (ad 11), .ref (ad 12), .ref (ad 13), .ref (ad 14), .ref (ad 15), .ref (ad 16), .ref (ad 17), .ref (ad 18), .int 0, .int 0, .int 0, .int 0, .int 1, .int 0, .int 0, .int 0])), ((ad 9), .inl (k 0, 5, .inl (fun _ => 0)))]) sz) (gx_Qi D (fun (r : Int32) (u : Unit) => r = -2) (fun (u : Unit) => ([] : va_W)) (va_A ([((ad 0), .inr (4, [.ref (ad 1), .ref (ad 2), .ref (ad 3), .ref (ad 4), .ref (ad 5), .ref (ad 6), .ref (ad 7), .ref (ad 8), .ref (ad 9), .int 0])), ((ad 1), .inr (0, [.ref (ad 10), .ref (ad 11), .ref (ad 12), .ref (ad 13), .ref (ad 14), .ref (ad 15), .ref (ad 16), .ref (ad 17), .ref (ad 18), .int 0, .int 0, .int 0, .int 0, .int 1, .int 0, .int 0, .int 0])), ((ad 9), .inl (k 0, 5, .inl (fun _ => 0)))]) sz)) 0 0 (va_A ([((ad 0), .inr (4, [.ref (ad 1), .ref (ad 2), .ref (ad 3), .ref (ad 4), .ref (ad 5), .ref (ad 6), .ref (ad 7), .ref (ad 8), .ref (ad 9), .int 0])), ((ad 1), .inr (0, [.ref (ad 10), .ref (ad 11), .ref (ad 12), .ref (ad 13), .ref (ad 14), .ref (ad 15), .ref (ad 16), .ref (ad 17), .ref (ad 18), .int 0, .int 0, .int 0, .int 0, .int 1, .int 0, .int 0, .int 0])), ((ad 9), .inl (k 0, 5, .inl (fun _ => 0)))]) sz) := by
  refine gx_metE (Qc := fun A => gx_Qi D (fun (r : Int32) (u : Unit) => r = -2) (fun (u : Unit) => ([] : va_W)) A) (y := yX6_way) (cc := cX6_way) (n := 4) (ret := (some .int)) (av := [.ref (ad 0), .int av, .int bv]) (by decide) (Nat.le_of_ble_eq_true rfl) ?_
  intro p e s m below meth c A ls C hA hP hD hK hS hl
  obtain ⟨hx, hb, hr, hml, hown, hT, hlk, hin⟩ := id C
  have hown : s.vm.findClass RX6 = some m.cls := hown
  have hl : lv_has ls 4 [(0, .ref (ad 0)), (1, .int av), (2, .int bv)] := hl
  refine lv_aload_n hx hb dX6_way_0 rfl (lv_at hl 0 rfl) ?_
  refine lv_iload_n hx hb dX6_way_1 rfl (lv_at hl 1 rfl) ?_
  refine gx_pi hP hS (gx_runV (na := 1) (As := [.int av]) (rest := []) (ci := 4) C hl.1 hK (gx_subP (wc := ([((ad 0), .inr (4, [.ref (ad 1), .ref (ad 2), .ref (ad 3), .ref (ad 4), .ref (ad 5), .ref (ad 6), .ref (ad 7), .ref (ad 8), .ref (ad 9), .int 0])), ((ad 1), .inr (0, [.ref (ad 10), .ref (ad 11), .ref (ad 12), .ref (ad 13), .ref (ad 14), .ref (ad 15), .ref (ad 16), .ref (ad 17), .ref (ad 18), .int 0, .int 0, .int 0, .int 0, .int 1, .int 0, .int 0, .int 0]))] : va_W)) hP [0, 1] rfl) ((hD.sub (ws' := ([((ad 0), .inr (4, [.ref (ad 1), .ref (ad 2), .ref (ad 3), .ref (ad 4), .ref (ad 5), .ref (ad 6), .ref (ad 7), .ref (ad 8), .ref (ad 9), .int 0])), ((ad 1), .inr (0, [.ref (ad 10), .ref (ad 11), .ref (ad 12), .ref (ad 13), .ref (ad 14), .ref (ad 15), .ref (ad 16), .ref (ad 17), .ref (ad 18), .int 0, .int 0, .int 0, .int 0, .int 1, .int 0, .int 0, .int 0]))] : va_W)) [0, 1] (by decide) rfl).weaken (fun _ _ _ _ => trivial)) (k_isOne l D k ad av _) gV_RX6_182 (by decide +kernel) rfl rfl ⟨Nat.le_of_ble_eq_true rfl, Nat.le_of_ble_eq_true rfl⟩ rfl rfl rfl rfl (Nat.le_of_ble_eq_true rfl) dX6_way_2 ⟨Nat.le_of_ble_eq_true rfl, Nat.le_of_ble_eq_true rfl⟩) (fun r_2 H locs c_1 hP hS => ?_)
  have c_1 : r_2 = 0 := c_1
  subst c_1
  refine lv_if_eq (tgt := 29) hx hb dX6_way_5 (by decide) (fun c_3 => ?_) (fun c_3 => absurd (by decide) c_3)
  refine lv_aload_n hx hb dX6_way_29 rfl (lv_at hl 0 rfl) ?_
  refine lv_bipush (v := (-2)) hx hb dX6_way_30 (by decide) ?_
  refine gx_ei (wc := ([((ad 0), .inr (4, [.ref (ad 1), .ref (ad 2), .ref (ad 3), .ref (ad 4), .ref (ad 5), .ref (ad 6), .ref (ad 7), .ref (ad 8), .ref (ad 9), .int 0])), ((ad 9), .inl (k 0, 5, .inl (fun _ => 0)))] : va_W)) (wr := [((ad 1), .inr (0, [.ref (ad 10), .ref (ad 11), .ref (ad 12), .ref (ad 13), .ref (ad 14), .ref (ad 15), .ref (ad 16), .ref (ad 17), .ref (ad 18), .int 0, .int 0, .int 0, .int 0, .int 1, .int 0, .int 0, .int 0]))]) (isC := [0, 2]) (isR := [1]) hP hD hS hA rfl rfl (by decide) (by decide) (gx_runV (na := 1) (As := [.int (-2)]) (rest := []) (ci := 4) C hl.1 hK (gx_subP (wc := ([((ad 0), .inr (4, [.ref (ad 1), .ref (ad 2), .ref (ad 3), .ref (ad 4), .ref (ad 5), .ref (ad 6), .ref (ad 7), .ref (ad 8), .ref (ad 9), .int 0])), ((ad 9), .inl (k 0, 5, .inl (fun _ => 0)))] : va_W)) hP [0, 2] rfl) ((hD.sub (ws' := ([((ad 0), .inr (4, [.ref (ad 1), .ref (ad 2), .ref (ad 3), .ref (ad 4), .ref (ad 5), .ref (ad 6), .ref (ad 7), .ref (ad 8), .ref (ad 9), .int 0])), ((ad 9), .inl (k 0, 5, .inl (fun _ => 0)))] : va_W)) [0, 2] (by decide) rfl).weaken (fun _ _ _ _ => trivial)) (k_refuse2 l D k ad _) gV_RX6_61 (by decide +kernel) rfl rfl ⟨Nat.le_of_ble_eq_true rfl, Nat.le_of_ble_eq_true rfl⟩ rfl rfl rfl rfl (Nat.le_of_ble_eq_true rfl) dX6_way_32 ⟨Nat.le_of_ble_eq_true rfl, Nat.le_of_ble_eq_true rfl⟩) (fun r_6 u_4 H locs h_5 hP hD hS => ?_)
  have h_5 : r_6 = -2 := h_5
  have hP : va_P D gx_cl [((ad 1), .inr (0, [.ref (ad 10), .ref (ad 11), .ref (ad 12), .ref (ad 13), .ref (ad 14), .ref (ad 15), .ref (ad 16), .ref (ad 17), .ref (ad 18), .int 0, .int 0, .int 0, .int 0, .int 1, .int 0, .int 0, .int 0]))] H := hP
  have hD : va_D A [((ad 1), .inr (0, [.ref (ad 10), .ref (ad 11), .ref (ad 12), .ref (ad 13), .ref (ad 14), .ref (ad 15), .ref (ad 16), .ref (ad 17), .ref (ad 18), .int 0, .int 0, .int 0, .int 0, .int 1, .int 0, .int 0, .int 0]))] := hD
  have eh_5 := h_5
  subst eh_5
  exact gx_retI C (u := ()) gx_nil gx_noneD hS (rfl) dX6_way_35
set_option maxHeartbeats 4000000 in
set_option maxRecDepth 100000 in
theorem x_lacks (l : Launch) (D : va_G) (k : Nat → ClassId) (ad : Nat → Nat) (av : Int32) (sz : Nat) : Met l yX6_lacks (.code yX6_lacks cX6_lacks 2 (some .int) :: gx_T) ({ frames := 2, cells := 0, slots := 0, locals := 43 }) (gx_Pre D k [.ref (ad 0), .int av] ([((ad 0), .inr (4, [.ref (ad 1), .ref (ad 2), .ref (ad 3), .ref (ad 4), .ref (ad 5), .ref (ad 6), .ref (ad 7), .ref (ad 8), .ref (ad 9), .int 0])), ((ad 1), .inr (0, [.ref (ad 10), .ref (ad 11), .ref (ad 12), .ref (ad 13), .ref (ad 14), .ref (ad 15), .ref (ad 16), .ref (ad 17), .ref (ad 18), .int 0, .int 0, .int 0, .int 0, .int 1, .int 0, .int 0, .int 0])), ((ad 9), .inl (k 0, 5, .inl (fun _ => 0)))]) sz) (gx_Qi D (fun (r : Int32) (u : Unit) => r = -2) (fun (u : Unit) => ([] : va_W)) (va_A ([((ad 0), .inr (4, [.ref (ad 1), .ref (ad 2), .ref (ad 3), .ref (ad 4), .ref (ad 5), .ref (ad 6), .ref (ad 7), .ref (ad 8), .ref (ad 9), .int 0])), ((ad 1), .inr (0, [.ref (ad 10), .ref (ad 11), .ref (ad 12), .ref (ad 13), .ref (ad 14), .ref (ad 15), .ref (ad 16), .ref (ad 17), .ref (ad 18), .int 0, .int 0, .int 0, .int 0, .int 1, .int 0, .int 0, .int 0])), ((ad 9), .inl (k 0, 5, .inl (fun _ => 0)))]) sz)) 0 0 (va_A ([((ad 0), .inr (4, [.ref (ad 1), .ref (ad 2), .ref (ad 3), .ref (ad 4), .ref (ad 5), .ref (ad 6), .ref (ad 7), .ref (ad 8), .ref (ad 9), .int 0])), ((ad 1), .inr (0, [.ref (ad 10), .ref (ad 11), .ref (ad 12), .ref (ad 13), .ref (ad 14), .ref (ad 15), .ref (ad 16), .ref (ad 17), .ref (ad 18), .int 0, .int 0, .int 0, .int 0, .int 1, .int 0, .int 0, .int 0])), ((ad 9), .inl (k 0, 5, .inl (fun _ => 0)))]) sz) := by
  refine gx_metE (Qc := fun A => gx_Qi D (fun (r : Int32) (u : Unit) => r = -2) (fun (u : Unit) => ([] : va_W)) A) (y := yX6_lacks) (cc := cX6_lacks) (n := 2) (ret := (some .int)) (av := [.ref (ad 0), .int av]) (by decide) (Nat.le_of_ble_eq_true rfl) ?_
  intro p e s m below meth c A ls C hA hP hD hK hS hl
  obtain ⟨hx, hb, hr, hml, hown, hT, hlk, hin⟩ := id C
  have hown : s.vm.findClass RX6 = some m.cls := hown
  have hl : lv_has ls 2 [(0, .ref (ad 0)), (1, .int av)] := hl
  refine lv_aload_n hx hb dX6_lacks_0 rfl (lv_at hl 0 rfl) ?_
  refine lv_iload_n hx hb dX6_lacks_1 rfl (lv_at hl 1 rfl) ?_
  refine gx_pi hP hS (gx_runV (na := 1) (As := [.int av]) (rest := []) (ci := 4) C hl.1 hK (gx_subP (wc := ([((ad 0), .inr (4, [.ref (ad 1), .ref (ad 2), .ref (ad 3), .ref (ad 4), .ref (ad 5), .ref (ad 6), .ref (ad 7), .ref (ad 8), .ref (ad 9), .int 0])), ((ad 1), .inr (0, [.ref (ad 10), .ref (ad 11), .ref (ad 12), .ref (ad 13), .ref (ad 14), .ref (ad 15), .ref (ad 16), .ref (ad 17), .ref (ad 18), .int 0, .int 0, .int 0, .int 0, .int 1, .int 0, .int 0, .int 0]))] : va_W)) hP [0, 1] rfl) ((hD.sub (ws' := ([((ad 0), .inr (4, [.ref (ad 1), .ref (ad 2), .ref (ad 3), .ref (ad 4), .ref (ad 5), .ref (ad 6), .ref (ad 7), .ref (ad 8), .ref (ad 9), .int 0])), ((ad 1), .inr (0, [.ref (ad 10), .ref (ad 11), .ref (ad 12), .ref (ad 13), .ref (ad 14), .ref (ad 15), .ref (ad 16), .ref (ad 17), .ref (ad 18), .int 0, .int 0, .int 0, .int 0, .int 1, .int 0, .int 0, .int 0]))] : va_W)) [0, 1] (by decide) rfl).weaken (fun _ _ _ _ => trivial)) (k_isOne l D k ad av _) gV_RX6_182 (by decide +kernel) rfl rfl ⟨Nat.le_of_ble_eq_true rfl, Nat.le_of_ble_eq_true rfl⟩ rfl rfl rfl rfl (Nat.le_of_ble_eq_true rfl) dX6_lacks_2 ⟨Nat.le_of_ble_eq_true rfl, Nat.le_of_ble_eq_true rfl⟩) (fun r_2 H locs c_1 hP hS => ?_)
  have c_1 : r_2 = 0 := c_1
  subst c_1
  refine lv_if_eq (tgt := 26) hx hb dX6_lacks_5 (by decide) (fun c_3 => ?_) (fun c_3 => absurd (by decide) c_3)
  refine lv_aload_n hx hb dX6_lacks_26 rfl (lv_at hl 0 rfl) ?_
  refine lv_bipush (v := (-2)) hx hb dX6_lacks_27 (by decide) ?_
  refine gx_ei (wc := ([((ad 0), .inr (4, [.ref (ad 1), .ref (ad 2), .ref (ad 3), .ref (ad 4), .ref (ad 5), .ref (ad 6), .ref (ad 7), .ref (ad 8), .ref (ad 9), .int 0])), ((ad 9), .inl (k 0, 5, .inl (fun _ => 0)))] : va_W)) (wr := [((ad 1), .inr (0, [.ref (ad 10), .ref (ad 11), .ref (ad 12), .ref (ad 13), .ref (ad 14), .ref (ad 15), .ref (ad 16), .ref (ad 17), .ref (ad 18), .int 0, .int 0, .int 0, .int 0, .int 1, .int 0, .int 0, .int 0]))]) (isC := [0, 2]) (isR := [1]) hP hD hS hA rfl rfl (by decide) (by decide) (gx_runV (na := 1) (As := [.int (-2)]) (rest := []) (ci := 4) C hl.1 hK (gx_subP (wc := ([((ad 0), .inr (4, [.ref (ad 1), .ref (ad 2), .ref (ad 3), .ref (ad 4), .ref (ad 5), .ref (ad 6), .ref (ad 7), .ref (ad 8), .ref (ad 9), .int 0])), ((ad 9), .inl (k 0, 5, .inl (fun _ => 0)))] : va_W)) hP [0, 2] rfl) ((hD.sub (ws' := ([((ad 0), .inr (4, [.ref (ad 1), .ref (ad 2), .ref (ad 3), .ref (ad 4), .ref (ad 5), .ref (ad 6), .ref (ad 7), .ref (ad 8), .ref (ad 9), .int 0])), ((ad 9), .inl (k 0, 5, .inl (fun _ => 0)))] : va_W)) [0, 2] (by decide) rfl).weaken (fun _ _ _ _ => trivial)) (k_refuse2 l D k ad _) gV_RX6_61 (by decide +kernel) rfl rfl ⟨Nat.le_of_ble_eq_true rfl, Nat.le_of_ble_eq_true rfl⟩ rfl rfl rfl rfl (Nat.le_of_ble_eq_true rfl) dX6_lacks_29 ⟨Nat.le_of_ble_eq_true rfl, Nat.le_of_ble_eq_true rfl⟩) (fun r_6 u_4 H locs h_5 hP hD hS => ?_)
  have h_5 : r_6 = -2 := h_5
  have hP : va_P D gx_cl [((ad 1), .inr (0, [.ref (ad 10), .ref (ad 11), .ref (ad 12), .ref (ad 13), .ref (ad 14), .ref (ad 15), .ref (ad 16), .ref (ad 17), .ref (ad 18), .int 0, .int 0, .int 0, .int 0, .int 1, .int 0, .int 0, .int 0]))] H := hP
  have hD : va_D A [((ad 1), .inr (0, [.ref (ad 10), .ref (ad 11), .ref (ad 12), .ref (ad 13), .ref (ad 14), .ref (ad 15), .ref (ad 16), .ref (ad 17), .ref (ad 18), .int 0, .int 0, .int 0, .int 0, .int 1, .int 0, .int 0, .int 0]))] := hD
  have eh_5 := h_5
  subst eh_5
  exact gx_retI C (u := ()) gx_nil gx_noneD hS (rfl) dX6_lacks_32
set_option maxHeartbeats 4000000 in
set_option maxRecDepth 100000 in
theorem x_longest (l : Launch) (D : va_G) (k : Nat → ClassId) (ad : Nat → Nat) (av : Int32) (bv : Int32) (sz : Nat) : Met l yX6_longest (.code yX6_longest cX6_longest 4 (some .int) :: gx_T) ({ frames := 2, cells := 0, slots := 0, locals := 43 }) (gx_Pre D k [.ref (ad 0), .int av, .int bv] ([((ad 0), .inr (4, [.ref (ad 1), .ref (ad 2), .ref (ad 3), .ref (ad 4), .ref (ad 5), .ref (ad 6), .ref (ad 7), .ref (ad 8), .ref (ad 9), .int 0])), ((ad 1), .inr (0, [.ref (ad 10), .ref (ad 11), .ref (ad 12), .ref (ad 13), .ref (ad 14), .ref (ad 15), .ref (ad 16), .ref (ad 17), .ref (ad 18), .int 0, .int 0, .int 0, .int 0, .int 1, .int 0, .int 0, .int 0])), ((ad 9), .inl (k 0, 5, .inl (fun _ => 0)))]) sz) (gx_Qi D (fun (r : Int32) (u : Unit) => r = -2) (fun (u : Unit) => ([] : va_W)) (va_A ([((ad 0), .inr (4, [.ref (ad 1), .ref (ad 2), .ref (ad 3), .ref (ad 4), .ref (ad 5), .ref (ad 6), .ref (ad 7), .ref (ad 8), .ref (ad 9), .int 0])), ((ad 1), .inr (0, [.ref (ad 10), .ref (ad 11), .ref (ad 12), .ref (ad 13), .ref (ad 14), .ref (ad 15), .ref (ad 16), .ref (ad 17), .ref (ad 18), .int 0, .int 0, .int 0, .int 0, .int 1, .int 0, .int 0, .int 0])), ((ad 9), .inl (k 0, 5, .inl (fun _ => 0)))]) sz)) 0 0 (va_A ([((ad 0), .inr (4, [.ref (ad 1), .ref (ad 2), .ref (ad 3), .ref (ad 4), .ref (ad 5), .ref (ad 6), .ref (ad 7), .ref (ad 8), .ref (ad 9), .int 0])), ((ad 1), .inr (0, [.ref (ad 10), .ref (ad 11), .ref (ad 12), .ref (ad 13), .ref (ad 14), .ref (ad 15), .ref (ad 16), .ref (ad 17), .ref (ad 18), .int 0, .int 0, .int 0, .int 0, .int 1, .int 0, .int 0, .int 0])), ((ad 9), .inl (k 0, 5, .inl (fun _ => 0)))]) sz) := by
  refine gx_metE (Qc := fun A => gx_Qi D (fun (r : Int32) (u : Unit) => r = -2) (fun (u : Unit) => ([] : va_W)) A) (y := yX6_longest) (cc := cX6_longest) (n := 4) (ret := (some .int)) (av := [.ref (ad 0), .int av, .int bv]) (by decide) (Nat.le_of_ble_eq_true rfl) ?_
  intro p e s m below meth c A ls C hA hP hD hK hS hl
  obtain ⟨hx, hb, hr, hml, hown, hT, hlk, hin⟩ := id C
  have hown : s.vm.findClass RX6 = some m.cls := hown
  have hl : lv_has ls 4 [(0, .ref (ad 0)), (1, .int av), (2, .int bv)] := hl
  refine lv_aload_n hx hb dX6_longest_0 rfl (lv_at hl 0 rfl) ?_
  refine lv_iload_n hx hb dX6_longest_1 rfl (lv_at hl 1 rfl) ?_
  refine gx_pi hP hS (gx_runV (na := 1) (As := [.int av]) (rest := []) (ci := 4) C hl.1 hK (gx_subP (wc := ([((ad 0), .inr (4, [.ref (ad 1), .ref (ad 2), .ref (ad 3), .ref (ad 4), .ref (ad 5), .ref (ad 6), .ref (ad 7), .ref (ad 8), .ref (ad 9), .int 0])), ((ad 1), .inr (0, [.ref (ad 10), .ref (ad 11), .ref (ad 12), .ref (ad 13), .ref (ad 14), .ref (ad 15), .ref (ad 16), .ref (ad 17), .ref (ad 18), .int 0, .int 0, .int 0, .int 0, .int 1, .int 0, .int 0, .int 0]))] : va_W)) hP [0, 1] rfl) ((hD.sub (ws' := ([((ad 0), .inr (4, [.ref (ad 1), .ref (ad 2), .ref (ad 3), .ref (ad 4), .ref (ad 5), .ref (ad 6), .ref (ad 7), .ref (ad 8), .ref (ad 9), .int 0])), ((ad 1), .inr (0, [.ref (ad 10), .ref (ad 11), .ref (ad 12), .ref (ad 13), .ref (ad 14), .ref (ad 15), .ref (ad 16), .ref (ad 17), .ref (ad 18), .int 0, .int 0, .int 0, .int 0, .int 1, .int 0, .int 0, .int 0]))] : va_W)) [0, 1] (by decide) rfl).weaken (fun _ _ _ _ => trivial)) (k_isOne l D k ad av _) gV_RX6_182 (by decide +kernel) rfl rfl ⟨Nat.le_of_ble_eq_true rfl, Nat.le_of_ble_eq_true rfl⟩ rfl rfl rfl rfl (Nat.le_of_ble_eq_true rfl) dX6_longest_2 ⟨Nat.le_of_ble_eq_true rfl, Nat.le_of_ble_eq_true rfl⟩) (fun r_2 H locs c_1 hP hS => ?_)
  have c_1 : r_2 = 0 := c_1
  subst c_1
  refine lv_if_eq (tgt := 17) hx hb dX6_longest_5 (by decide) (fun c_3 => ?_) (fun c_3 => absurd (by decide) c_3)
  refine lv_aload_n hx hb dX6_longest_17 rfl (lv_at hl 0 rfl) ?_
  refine lv_bipush (v := (-2)) hx hb dX6_longest_18 (by decide) ?_
  refine gx_ei (wc := ([((ad 0), .inr (4, [.ref (ad 1), .ref (ad 2), .ref (ad 3), .ref (ad 4), .ref (ad 5), .ref (ad 6), .ref (ad 7), .ref (ad 8), .ref (ad 9), .int 0])), ((ad 9), .inl (k 0, 5, .inl (fun _ => 0)))] : va_W)) (wr := [((ad 1), .inr (0, [.ref (ad 10), .ref (ad 11), .ref (ad 12), .ref (ad 13), .ref (ad 14), .ref (ad 15), .ref (ad 16), .ref (ad 17), .ref (ad 18), .int 0, .int 0, .int 0, .int 0, .int 1, .int 0, .int 0, .int 0]))]) (isC := [0, 2]) (isR := [1]) hP hD hS hA rfl rfl (by decide) (by decide) (gx_runV (na := 1) (As := [.int (-2)]) (rest := []) (ci := 4) C hl.1 hK (gx_subP (wc := ([((ad 0), .inr (4, [.ref (ad 1), .ref (ad 2), .ref (ad 3), .ref (ad 4), .ref (ad 5), .ref (ad 6), .ref (ad 7), .ref (ad 8), .ref (ad 9), .int 0])), ((ad 9), .inl (k 0, 5, .inl (fun _ => 0)))] : va_W)) hP [0, 2] rfl) ((hD.sub (ws' := ([((ad 0), .inr (4, [.ref (ad 1), .ref (ad 2), .ref (ad 3), .ref (ad 4), .ref (ad 5), .ref (ad 6), .ref (ad 7), .ref (ad 8), .ref (ad 9), .int 0])), ((ad 9), .inl (k 0, 5, .inl (fun _ => 0)))] : va_W)) [0, 2] (by decide) rfl).weaken (fun _ _ _ _ => trivial)) (k_refuse2 l D k ad _) gV_RX6_61 (by decide +kernel) rfl rfl ⟨Nat.le_of_ble_eq_true rfl, Nat.le_of_ble_eq_true rfl⟩ rfl rfl rfl rfl (Nat.le_of_ble_eq_true rfl) dX6_longest_20 ⟨Nat.le_of_ble_eq_true rfl, Nat.le_of_ble_eq_true rfl⟩) (fun r_6 u_4 H locs h_5 hP hD hS => ?_)
  have h_5 : r_6 = -2 := h_5
  have hP : va_P D gx_cl [((ad 1), .inr (0, [.ref (ad 10), .ref (ad 11), .ref (ad 12), .ref (ad 13), .ref (ad 14), .ref (ad 15), .ref (ad 16), .ref (ad 17), .ref (ad 18), .int 0, .int 0, .int 0, .int 0, .int 1, .int 0, .int 0, .int 0]))] H := hP
  have hD : va_D A [((ad 1), .inr (0, [.ref (ad 10), .ref (ad 11), .ref (ad 12), .ref (ad 13), .ref (ad 14), .ref (ad 15), .ref (ad 16), .ref (ad 17), .ref (ad 18), .int 0, .int 0, .int 0, .int 0, .int 1, .int 0, .int 0, .int 0]))] := hD
  have eh_5 := h_5
  subst eh_5
  exact gx_retI C (u := ()) gx_nil gx_noneD hS (rfl) dX6_longest_23
set_option maxHeartbeats 4000000 in
set_option maxRecDepth 100000 in
theorem x_errands (l : Launch) (D : va_G) (k : Nat → ClassId) (ad : Nat → Nat) (av : Int32) (bv : Int32) (cv : Int32) (sz : Nat) : Met l yX6_errands (.code yX6_errands cX6_errands 4 (some .int) :: gx_T) ({ frames := 2, cells := 0, slots := 0, locals := 43 }) (gx_Pre D k [.ref (ad 0), .int av, .int bv, .int cv] ([((ad 0), .inr (4, [.ref (ad 1), .ref (ad 2), .ref (ad 3), .ref (ad 4), .ref (ad 5), .ref (ad 6), .ref (ad 7), .ref (ad 8), .ref (ad 9), .int 0])), ((ad 1), .inr (0, [.ref (ad 10), .ref (ad 11), .ref (ad 12), .ref (ad 13), .ref (ad 14), .ref (ad 15), .ref (ad 16), .ref (ad 17), .ref (ad 18), .int 0, .int 0, .int 0, .int 0, .int 1, .int 0, .int 0, .int 0])), ((ad 9), .inl (k 0, 5, .inl (fun _ => 0)))]) sz) (gx_Qi D (fun (r : Int32) (u : Unit) => r = -2) (fun (u : Unit) => ([] : va_W)) (va_A ([((ad 0), .inr (4, [.ref (ad 1), .ref (ad 2), .ref (ad 3), .ref (ad 4), .ref (ad 5), .ref (ad 6), .ref (ad 7), .ref (ad 8), .ref (ad 9), .int 0])), ((ad 1), .inr (0, [.ref (ad 10), .ref (ad 11), .ref (ad 12), .ref (ad 13), .ref (ad 14), .ref (ad 15), .ref (ad 16), .ref (ad 17), .ref (ad 18), .int 0, .int 0, .int 0, .int 0, .int 1, .int 0, .int 0, .int 0])), ((ad 9), .inl (k 0, 5, .inl (fun _ => 0)))]) sz)) 0 0 (va_A ([((ad 0), .inr (4, [.ref (ad 1), .ref (ad 2), .ref (ad 3), .ref (ad 4), .ref (ad 5), .ref (ad 6), .ref (ad 7), .ref (ad 8), .ref (ad 9), .int 0])), ((ad 1), .inr (0, [.ref (ad 10), .ref (ad 11), .ref (ad 12), .ref (ad 13), .ref (ad 14), .ref (ad 15), .ref (ad 16), .ref (ad 17), .ref (ad 18), .int 0, .int 0, .int 0, .int 0, .int 1, .int 0, .int 0, .int 0])), ((ad 9), .inl (k 0, 5, .inl (fun _ => 0)))]) sz) := by
  refine gx_metE (Qc := fun A => gx_Qi D (fun (r : Int32) (u : Unit) => r = -2) (fun (u : Unit) => ([] : va_W)) A) (y := yX6_errands) (cc := cX6_errands) (n := 4) (ret := (some .int)) (av := [.ref (ad 0), .int av, .int bv, .int cv]) (by decide) (Nat.le_of_ble_eq_true rfl) ?_
  intro p e s m below meth c A ls C hA hP hD hK hS hl
  obtain ⟨hx, hb, hr, hml, hown, hT, hlk, hin⟩ := id C
  have hown : s.vm.findClass RX6 = some m.cls := hown
  have hl : lv_has ls 4 [(0, .ref (ad 0)), (1, .int av), (2, .int bv), (3, .int cv)] := hl
  refine lv_aload_n hx hb dX6_errands_0 rfl (lv_at hl 0 rfl) ?_
  refine lv_iload_n hx hb dX6_errands_1 rfl (lv_at hl 1 rfl) ?_
  refine gx_pi hP hS (gx_runV (na := 1) (As := [.int av]) (rest := []) (ci := 4) C hl.1 hK (gx_subP (wc := ([((ad 0), .inr (4, [.ref (ad 1), .ref (ad 2), .ref (ad 3), .ref (ad 4), .ref (ad 5), .ref (ad 6), .ref (ad 7), .ref (ad 8), .ref (ad 9), .int 0])), ((ad 1), .inr (0, [.ref (ad 10), .ref (ad 11), .ref (ad 12), .ref (ad 13), .ref (ad 14), .ref (ad 15), .ref (ad 16), .ref (ad 17), .ref (ad 18), .int 0, .int 0, .int 0, .int 0, .int 1, .int 0, .int 0, .int 0]))] : va_W)) hP [0, 1] rfl) ((hD.sub (ws' := ([((ad 0), .inr (4, [.ref (ad 1), .ref (ad 2), .ref (ad 3), .ref (ad 4), .ref (ad 5), .ref (ad 6), .ref (ad 7), .ref (ad 8), .ref (ad 9), .int 0])), ((ad 1), .inr (0, [.ref (ad 10), .ref (ad 11), .ref (ad 12), .ref (ad 13), .ref (ad 14), .ref (ad 15), .ref (ad 16), .ref (ad 17), .ref (ad 18), .int 0, .int 0, .int 0, .int 0, .int 1, .int 0, .int 0, .int 0]))] : va_W)) [0, 1] (by decide) rfl).weaken (fun _ _ _ _ => trivial)) (k_isOne l D k ad av _) gV_RX6_182 (by decide +kernel) rfl rfl ⟨Nat.le_of_ble_eq_true rfl, Nat.le_of_ble_eq_true rfl⟩ rfl rfl rfl rfl (Nat.le_of_ble_eq_true rfl) dX6_errands_2 ⟨Nat.le_of_ble_eq_true rfl, Nat.le_of_ble_eq_true rfl⟩) (fun r_2 H locs c_1 hP hS => ?_)
  have c_1 : r_2 = 0 := c_1
  subst c_1
  refine lv_if_eq (tgt := 27) hx hb dX6_errands_5 (by decide) (fun c_3 => ?_) (fun c_3 => absurd (by decide) c_3)
  refine lv_aload_n hx hb dX6_errands_27 rfl (lv_at hl 0 rfl) ?_
  refine lv_bipush (v := (-2)) hx hb dX6_errands_28 (by decide) ?_
  refine gx_ei (wc := ([((ad 0), .inr (4, [.ref (ad 1), .ref (ad 2), .ref (ad 3), .ref (ad 4), .ref (ad 5), .ref (ad 6), .ref (ad 7), .ref (ad 8), .ref (ad 9), .int 0])), ((ad 9), .inl (k 0, 5, .inl (fun _ => 0)))] : va_W)) (wr := [((ad 1), .inr (0, [.ref (ad 10), .ref (ad 11), .ref (ad 12), .ref (ad 13), .ref (ad 14), .ref (ad 15), .ref (ad 16), .ref (ad 17), .ref (ad 18), .int 0, .int 0, .int 0, .int 0, .int 1, .int 0, .int 0, .int 0]))]) (isC := [0, 2]) (isR := [1]) hP hD hS hA rfl rfl (by decide) (by decide) (gx_runV (na := 1) (As := [.int (-2)]) (rest := []) (ci := 4) C hl.1 hK (gx_subP (wc := ([((ad 0), .inr (4, [.ref (ad 1), .ref (ad 2), .ref (ad 3), .ref (ad 4), .ref (ad 5), .ref (ad 6), .ref (ad 7), .ref (ad 8), .ref (ad 9), .int 0])), ((ad 9), .inl (k 0, 5, .inl (fun _ => 0)))] : va_W)) hP [0, 2] rfl) ((hD.sub (ws' := ([((ad 0), .inr (4, [.ref (ad 1), .ref (ad 2), .ref (ad 3), .ref (ad 4), .ref (ad 5), .ref (ad 6), .ref (ad 7), .ref (ad 8), .ref (ad 9), .int 0])), ((ad 9), .inl (k 0, 5, .inl (fun _ => 0)))] : va_W)) [0, 2] (by decide) rfl).weaken (fun _ _ _ _ => trivial)) (k_refuse2 l D k ad _) gV_RX6_61 (by decide +kernel) rfl rfl ⟨Nat.le_of_ble_eq_true rfl, Nat.le_of_ble_eq_true rfl⟩ rfl rfl rfl rfl (Nat.le_of_ble_eq_true rfl) dX6_errands_30 ⟨Nat.le_of_ble_eq_true rfl, Nat.le_of_ble_eq_true rfl⟩) (fun r_6 u_4 H locs h_5 hP hD hS => ?_)
  have h_5 : r_6 = -2 := h_5
  have hP : va_P D gx_cl [((ad 1), .inr (0, [.ref (ad 10), .ref (ad 11), .ref (ad 12), .ref (ad 13), .ref (ad 14), .ref (ad 15), .ref (ad 16), .ref (ad 17), .ref (ad 18), .int 0, .int 0, .int 0, .int 0, .int 1, .int 0, .int 0, .int 0]))] H := hP
  have hD : va_D A [((ad 1), .inr (0, [.ref (ad 10), .ref (ad 11), .ref (ad 12), .ref (ad 13), .ref (ad 14), .ref (ad 15), .ref (ad 16), .ref (ad 17), .ref (ad 18), .int 0, .int 0, .int 0, .int 0, .int 1, .int 0, .int 0, .int 0]))] := hD
  have eh_5 := h_5
  subst eh_5
  exact gx_retI C (u := ()) gx_nil gx_noneD hS (rfl) dX6_errands_33
set_option maxHeartbeats 4000000 in
set_option maxRecDepth 100000 in
theorem x_cut (l : Launch) (D : va_G) (k : Nat → ClassId) (ad : Nat → Nat) (av : Int32) (bv : Int32) (cv : Int32) (sz : Nat) : Met l yX6_cut (.code yX6_cut cX6_cut 4 (some .int) :: gx_T) ({ frames := 2, cells := 0, slots := 0, locals := 43 }) (gx_Pre D k [.ref (ad 0), .int av, .int bv, .int cv] ([((ad 0), .inr (4, [.ref (ad 1), .ref (ad 2), .ref (ad 3), .ref (ad 4), .ref (ad 5), .ref (ad 6), .ref (ad 7), .ref (ad 8), .ref (ad 9), .int 0])), ((ad 1), .inr (0, [.ref (ad 10), .ref (ad 11), .ref (ad 12), .ref (ad 13), .ref (ad 14), .ref (ad 15), .ref (ad 16), .ref (ad 17), .ref (ad 18), .int 0, .int 0, .int 0, .int 0, .int 1, .int 0, .int 0, .int 0])), ((ad 9), .inl (k 0, 5, .inl (fun _ => 0)))]) sz) (gx_Qi D (fun (r : Int32) (u : Unit) => r = -2) (fun (u : Unit) => ([] : va_W)) (va_A ([((ad 0), .inr (4, [.ref (ad 1), .ref (ad 2), .ref (ad 3), .ref (ad 4), .ref (ad 5), .ref (ad 6), .ref (ad 7), .ref (ad 8), .ref (ad 9), .int 0])), ((ad 1), .inr (0, [.ref (ad 10), .ref (ad 11), .ref (ad 12), .ref (ad 13), .ref (ad 14), .ref (ad 15), .ref (ad 16), .ref (ad 17), .ref (ad 18), .int 0, .int 0, .int 0, .int 0, .int 1, .int 0, .int 0, .int 0])), ((ad 9), .inl (k 0, 5, .inl (fun _ => 0)))]) sz)) 0 0 (va_A ([((ad 0), .inr (4, [.ref (ad 1), .ref (ad 2), .ref (ad 3), .ref (ad 4), .ref (ad 5), .ref (ad 6), .ref (ad 7), .ref (ad 8), .ref (ad 9), .int 0])), ((ad 1), .inr (0, [.ref (ad 10), .ref (ad 11), .ref (ad 12), .ref (ad 13), .ref (ad 14), .ref (ad 15), .ref (ad 16), .ref (ad 17), .ref (ad 18), .int 0, .int 0, .int 0, .int 0, .int 1, .int 0, .int 0, .int 0])), ((ad 9), .inl (k 0, 5, .inl (fun _ => 0)))]) sz) := by
  refine gx_metE (Qc := fun A => gx_Qi D (fun (r : Int32) (u : Unit) => r = -2) (fun (u : Unit) => ([] : va_W)) A) (y := yX6_cut) (cc := cX6_cut) (n := 4) (ret := (some .int)) (av := [.ref (ad 0), .int av, .int bv, .int cv]) (by decide) (Nat.le_of_ble_eq_true rfl) ?_
  intro p e s m below meth c A ls C hA hP hD hK hS hl
  obtain ⟨hx, hb, hr, hml, hown, hT, hlk, hin⟩ := id C
  have hown : s.vm.findClass RX6 = some m.cls := hown
  have hl : lv_has ls 4 [(0, .ref (ad 0)), (1, .int av), (2, .int bv), (3, .int cv)] := hl
  refine lv_aload_n hx hb dX6_cut_0 rfl (lv_at hl 0 rfl) ?_
  refine lv_iload_n hx hb dX6_cut_1 rfl (lv_at hl 1 rfl) ?_
  refine gx_pi hP hS (gx_runV (na := 1) (As := [.int av]) (rest := []) (ci := 4) C hl.1 hK (gx_subP (wc := ([((ad 0), .inr (4, [.ref (ad 1), .ref (ad 2), .ref (ad 3), .ref (ad 4), .ref (ad 5), .ref (ad 6), .ref (ad 7), .ref (ad 8), .ref (ad 9), .int 0])), ((ad 1), .inr (0, [.ref (ad 10), .ref (ad 11), .ref (ad 12), .ref (ad 13), .ref (ad 14), .ref (ad 15), .ref (ad 16), .ref (ad 17), .ref (ad 18), .int 0, .int 0, .int 0, .int 0, .int 1, .int 0, .int 0, .int 0]))] : va_W)) hP [0, 1] rfl) ((hD.sub (ws' := ([((ad 0), .inr (4, [.ref (ad 1), .ref (ad 2), .ref (ad 3), .ref (ad 4), .ref (ad 5), .ref (ad 6), .ref (ad 7), .ref (ad 8), .ref (ad 9), .int 0])), ((ad 1), .inr (0, [.ref (ad 10), .ref (ad 11), .ref (ad 12), .ref (ad 13), .ref (ad 14), .ref (ad 15), .ref (ad 16), .ref (ad 17), .ref (ad 18), .int 0, .int 0, .int 0, .int 0, .int 1, .int 0, .int 0, .int 0]))] : va_W)) [0, 1] (by decide) rfl).weaken (fun _ _ _ _ => trivial)) (k_isOne l D k ad av _) gV_RX6_182 (by decide +kernel) rfl rfl ⟨Nat.le_of_ble_eq_true rfl, Nat.le_of_ble_eq_true rfl⟩ rfl rfl rfl rfl (Nat.le_of_ble_eq_true rfl) dX6_cut_2 ⟨Nat.le_of_ble_eq_true rfl, Nat.le_of_ble_eq_true rfl⟩) (fun r_2 H locs c_1 hP hS => ?_)
  have c_1 : r_2 = 0 := c_1
  subst c_1
  refine lv_if_eq (tgt := 27) hx hb dX6_cut_5 (by decide) (fun c_3 => ?_) (fun c_3 => absurd (by decide) c_3)
  refine lv_aload_n hx hb dX6_cut_27 rfl (lv_at hl 0 rfl) ?_
  refine lv_bipush (v := (-2)) hx hb dX6_cut_28 (by decide) ?_
  refine gx_ei (wc := ([((ad 0), .inr (4, [.ref (ad 1), .ref (ad 2), .ref (ad 3), .ref (ad 4), .ref (ad 5), .ref (ad 6), .ref (ad 7), .ref (ad 8), .ref (ad 9), .int 0])), ((ad 9), .inl (k 0, 5, .inl (fun _ => 0)))] : va_W)) (wr := [((ad 1), .inr (0, [.ref (ad 10), .ref (ad 11), .ref (ad 12), .ref (ad 13), .ref (ad 14), .ref (ad 15), .ref (ad 16), .ref (ad 17), .ref (ad 18), .int 0, .int 0, .int 0, .int 0, .int 1, .int 0, .int 0, .int 0]))]) (isC := [0, 2]) (isR := [1]) hP hD hS hA rfl rfl (by decide) (by decide) (gx_runV (na := 1) (As := [.int (-2)]) (rest := []) (ci := 4) C hl.1 hK (gx_subP (wc := ([((ad 0), .inr (4, [.ref (ad 1), .ref (ad 2), .ref (ad 3), .ref (ad 4), .ref (ad 5), .ref (ad 6), .ref (ad 7), .ref (ad 8), .ref (ad 9), .int 0])), ((ad 9), .inl (k 0, 5, .inl (fun _ => 0)))] : va_W)) hP [0, 2] rfl) ((hD.sub (ws' := ([((ad 0), .inr (4, [.ref (ad 1), .ref (ad 2), .ref (ad 3), .ref (ad 4), .ref (ad 5), .ref (ad 6), .ref (ad 7), .ref (ad 8), .ref (ad 9), .int 0])), ((ad 9), .inl (k 0, 5, .inl (fun _ => 0)))] : va_W)) [0, 2] (by decide) rfl).weaken (fun _ _ _ _ => trivial)) (k_refuse2 l D k ad _) gV_RX6_61 (by decide +kernel) rfl rfl ⟨Nat.le_of_ble_eq_true rfl, Nat.le_of_ble_eq_true rfl⟩ rfl rfl rfl rfl (Nat.le_of_ble_eq_true rfl) dX6_cut_30 ⟨Nat.le_of_ble_eq_true rfl, Nat.le_of_ble_eq_true rfl⟩) (fun r_6 u_4 H locs h_5 hP hD hS => ?_)
  have h_5 : r_6 = -2 := h_5
  have hP : va_P D gx_cl [((ad 1), .inr (0, [.ref (ad 10), .ref (ad 11), .ref (ad 12), .ref (ad 13), .ref (ad 14), .ref (ad 15), .ref (ad 16), .ref (ad 17), .ref (ad 18), .int 0, .int 0, .int 0, .int 0, .int 1, .int 0, .int 0, .int 0]))] H := hP
  have hD : va_D A [((ad 1), .inr (0, [.ref (ad 10), .ref (ad 11), .ref (ad 12), .ref (ad 13), .ref (ad 14), .ref (ad 15), .ref (ad 16), .ref (ad 17), .ref (ad 18), .int 0, .int 0, .int 0, .int 0, .int 1, .int 0, .int 0, .int 0]))] := hD
  have eh_5 := h_5
  subst eh_5
  exact gx_retI C (u := ()) gx_nil gx_noneD hS (rfl) dX6_cut_33
set_option maxHeartbeats 4000000 in
set_option maxRecDepth 100000 in
theorem x_meets (l : Launch) (D : va_G) (k : Nat → ClassId) (ad : Nat → Nat) (av : Int32) (bv : Int32) (cv : Int32) (sz : Nat) : Met l yX6_meets (.code yX6_meets cX6_meets 6 (some .int) :: gx_T) ({ frames := 2, cells := 0, slots := 0, locals := 43 }) (gx_Pre D k [.ref (ad 0), .int av, .int bv, .int cv] ([((ad 0), .inr (4, [.ref (ad 1), .ref (ad 2), .ref (ad 3), .ref (ad 4), .ref (ad 5), .ref (ad 6), .ref (ad 7), .ref (ad 8), .ref (ad 9), .int 0])), ((ad 1), .inr (0, [.ref (ad 10), .ref (ad 11), .ref (ad 12), .ref (ad 13), .ref (ad 14), .ref (ad 15), .ref (ad 16), .ref (ad 17), .ref (ad 18), .int 0, .int 0, .int 0, .int 0, .int 1, .int 0, .int 0, .int 0])), ((ad 9), .inl (k 0, 5, .inl (fun _ => 0)))]) sz) (gx_Qi D (fun (r : Int32) (u : Unit) => r = -2) (fun (u : Unit) => ([] : va_W)) (va_A ([((ad 0), .inr (4, [.ref (ad 1), .ref (ad 2), .ref (ad 3), .ref (ad 4), .ref (ad 5), .ref (ad 6), .ref (ad 7), .ref (ad 8), .ref (ad 9), .int 0])), ((ad 1), .inr (0, [.ref (ad 10), .ref (ad 11), .ref (ad 12), .ref (ad 13), .ref (ad 14), .ref (ad 15), .ref (ad 16), .ref (ad 17), .ref (ad 18), .int 0, .int 0, .int 0, .int 0, .int 1, .int 0, .int 0, .int 0])), ((ad 9), .inl (k 0, 5, .inl (fun _ => 0)))]) sz)) 0 0 (va_A ([((ad 0), .inr (4, [.ref (ad 1), .ref (ad 2), .ref (ad 3), .ref (ad 4), .ref (ad 5), .ref (ad 6), .ref (ad 7), .ref (ad 8), .ref (ad 9), .int 0])), ((ad 1), .inr (0, [.ref (ad 10), .ref (ad 11), .ref (ad 12), .ref (ad 13), .ref (ad 14), .ref (ad 15), .ref (ad 16), .ref (ad 17), .ref (ad 18), .int 0, .int 0, .int 0, .int 0, .int 1, .int 0, .int 0, .int 0])), ((ad 9), .inl (k 0, 5, .inl (fun _ => 0)))]) sz) := by
  refine gx_metE (Qc := fun A => gx_Qi D (fun (r : Int32) (u : Unit) => r = -2) (fun (u : Unit) => ([] : va_W)) A) (y := yX6_meets) (cc := cX6_meets) (n := 6) (ret := (some .int)) (av := [.ref (ad 0), .int av, .int bv, .int cv]) (by decide) (Nat.le_of_ble_eq_true rfl) ?_
  intro p e s m below meth c A ls C hA hP hD hK hS hl
  obtain ⟨hx, hb, hr, hml, hown, hT, hlk, hin⟩ := id C
  have hown : s.vm.findClass RX6 = some m.cls := hown
  have hl : lv_has ls 6 [(0, .ref (ad 0)), (1, .int av), (2, .int bv), (3, .int cv)] := hl
  refine lv_aload_n hx hb dX6_meets_0 rfl (lv_at hl 0 rfl) ?_
  refine lv_iload_n hx hb dX6_meets_1 rfl (lv_at hl 1 rfl) ?_
  refine gx_pi hP hS (gx_runV (na := 1) (As := [.int av]) (rest := []) (ci := 4) C hl.1 hK (gx_subP (wc := ([((ad 0), .inr (4, [.ref (ad 1), .ref (ad 2), .ref (ad 3), .ref (ad 4), .ref (ad 5), .ref (ad 6), .ref (ad 7), .ref (ad 8), .ref (ad 9), .int 0])), ((ad 1), .inr (0, [.ref (ad 10), .ref (ad 11), .ref (ad 12), .ref (ad 13), .ref (ad 14), .ref (ad 15), .ref (ad 16), .ref (ad 17), .ref (ad 18), .int 0, .int 0, .int 0, .int 0, .int 1, .int 0, .int 0, .int 0]))] : va_W)) hP [0, 1] rfl) ((hD.sub (ws' := ([((ad 0), .inr (4, [.ref (ad 1), .ref (ad 2), .ref (ad 3), .ref (ad 4), .ref (ad 5), .ref (ad 6), .ref (ad 7), .ref (ad 8), .ref (ad 9), .int 0])), ((ad 1), .inr (0, [.ref (ad 10), .ref (ad 11), .ref (ad 12), .ref (ad 13), .ref (ad 14), .ref (ad 15), .ref (ad 16), .ref (ad 17), .ref (ad 18), .int 0, .int 0, .int 0, .int 0, .int 1, .int 0, .int 0, .int 0]))] : va_W)) [0, 1] (by decide) rfl).weaken (fun _ _ _ _ => trivial)) (k_isOne l D k ad av _) gV_RX6_182 (by decide +kernel) rfl rfl ⟨Nat.le_of_ble_eq_true rfl, Nat.le_of_ble_eq_true rfl⟩ rfl rfl rfl rfl (Nat.le_of_ble_eq_true rfl) dX6_meets_2 ⟨Nat.le_of_ble_eq_true rfl, Nat.le_of_ble_eq_true rfl⟩) (fun r_2 H locs c_1 hP hS => ?_)
  have c_1 : r_2 = 0 := c_1
  subst c_1
  refine lv_if_eq (tgt := 25) hx hb dX6_meets_5 (by decide) (fun c_3 => ?_) (fun c_3 => absurd (by decide) c_3)
  refine lv_aload_n hx hb dX6_meets_25 rfl (lv_at hl 0 rfl) ?_
  refine lv_bipush (v := (-2)) hx hb dX6_meets_26 (by decide) ?_
  refine gx_ei (wc := ([((ad 0), .inr (4, [.ref (ad 1), .ref (ad 2), .ref (ad 3), .ref (ad 4), .ref (ad 5), .ref (ad 6), .ref (ad 7), .ref (ad 8), .ref (ad 9), .int 0])), ((ad 9), .inl (k 0, 5, .inl (fun _ => 0)))] : va_W)) (wr := [((ad 1), .inr (0, [.ref (ad 10), .ref (ad 11), .ref (ad 12), .ref (ad 13), .ref (ad 14), .ref (ad 15), .ref (ad 16), .ref (ad 17), .ref (ad 18), .int 0, .int 0, .int 0, .int 0, .int 1, .int 0, .int 0, .int 0]))]) (isC := [0, 2]) (isR := [1]) hP hD hS hA rfl rfl (by decide) (by decide) (gx_runV (na := 1) (As := [.int (-2)]) (rest := []) (ci := 4) C hl.1 hK (gx_subP (wc := ([((ad 0), .inr (4, [.ref (ad 1), .ref (ad 2), .ref (ad 3), .ref (ad 4), .ref (ad 5), .ref (ad 6), .ref (ad 7), .ref (ad 8), .ref (ad 9), .int 0])), ((ad 9), .inl (k 0, 5, .inl (fun _ => 0)))] : va_W)) hP [0, 2] rfl) ((hD.sub (ws' := ([((ad 0), .inr (4, [.ref (ad 1), .ref (ad 2), .ref (ad 3), .ref (ad 4), .ref (ad 5), .ref (ad 6), .ref (ad 7), .ref (ad 8), .ref (ad 9), .int 0])), ((ad 9), .inl (k 0, 5, .inl (fun _ => 0)))] : va_W)) [0, 2] (by decide) rfl).weaken (fun _ _ _ _ => trivial)) (k_refuse2 l D k ad _) gV_RX6_61 (by decide +kernel) rfl rfl ⟨Nat.le_of_ble_eq_true rfl, Nat.le_of_ble_eq_true rfl⟩ rfl rfl rfl rfl (Nat.le_of_ble_eq_true rfl) dX6_meets_28 ⟨Nat.le_of_ble_eq_true rfl, Nat.le_of_ble_eq_true rfl⟩) (fun r_6 u_4 H locs h_5 hP hD hS => ?_)
  have h_5 : r_6 = -2 := h_5
  have hP : va_P D gx_cl [((ad 1), .inr (0, [.ref (ad 10), .ref (ad 11), .ref (ad 12), .ref (ad 13), .ref (ad 14), .ref (ad 15), .ref (ad 16), .ref (ad 17), .ref (ad 18), .int 0, .int 0, .int 0, .int 0, .int 1, .int 0, .int 0, .int 0]))] H := hP
  have hD : va_D A [((ad 1), .inr (0, [.ref (ad 10), .ref (ad 11), .ref (ad 12), .ref (ad 13), .ref (ad 14), .ref (ad 15), .ref (ad 16), .ref (ad 17), .ref (ad 18), .int 0, .int 0, .int 0, .int 0, .int 1, .int 0, .int 0, .int 0]))] := hD
  have eh_5 := h_5
  subst eh_5
  exact gx_retI C (u := ()) gx_nil gx_noneD hS (rfl) dX6_meets_31
set_option maxHeartbeats 4000000 in
set_option maxRecDepth 100000 in
theorem x_near (l : Launch) (D : va_G) (k : Nat → ClassId) (ad : Nat → Nat) (av : Int32) (bv : Int32) (sz : Nat) : Met l yX6_near (.code yX6_near cX6_near 3 (some .int) :: gx_T) ({ frames := 2, cells := 0, slots := 0, locals := 43 }) (gx_Pre D k [.ref (ad 0), .int av, .int bv] ([((ad 0), .inr (4, [.ref (ad 1), .ref (ad 2), .ref (ad 3), .ref (ad 4), .ref (ad 5), .ref (ad 6), .ref (ad 7), .ref (ad 8), .ref (ad 9), .int 0])), ((ad 1), .inr (0, [.ref (ad 10), .ref (ad 11), .ref (ad 12), .ref (ad 13), .ref (ad 14), .ref (ad 15), .ref (ad 16), .ref (ad 17), .ref (ad 18), .int 0, .int 0, .int 0, .int 0, .int 1, .int 0, .int 0, .int 0])), ((ad 9), .inl (k 0, 5, .inl (fun _ => 0)))]) sz) (gx_Qi D (fun (r : Int32) (u : Unit) => r = -2) (fun (u : Unit) => ([] : va_W)) (va_A ([((ad 0), .inr (4, [.ref (ad 1), .ref (ad 2), .ref (ad 3), .ref (ad 4), .ref (ad 5), .ref (ad 6), .ref (ad 7), .ref (ad 8), .ref (ad 9), .int 0])), ((ad 1), .inr (0, [.ref (ad 10), .ref (ad 11), .ref (ad 12), .ref (ad 13), .ref (ad 14), .ref (ad 15), .ref (ad 16), .ref (ad 17), .ref (ad 18), .int 0, .int 0, .int 0, .int 0, .int 1, .int 0, .int 0, .int 0])), ((ad 9), .inl (k 0, 5, .inl (fun _ => 0)))]) sz)) 0 0 (va_A ([((ad 0), .inr (4, [.ref (ad 1), .ref (ad 2), .ref (ad 3), .ref (ad 4), .ref (ad 5), .ref (ad 6), .ref (ad 7), .ref (ad 8), .ref (ad 9), .int 0])), ((ad 1), .inr (0, [.ref (ad 10), .ref (ad 11), .ref (ad 12), .ref (ad 13), .ref (ad 14), .ref (ad 15), .ref (ad 16), .ref (ad 17), .ref (ad 18), .int 0, .int 0, .int 0, .int 0, .int 1, .int 0, .int 0, .int 0])), ((ad 9), .inl (k 0, 5, .inl (fun _ => 0)))]) sz) := by
  refine gx_metE (Qc := fun A => gx_Qi D (fun (r : Int32) (u : Unit) => r = -2) (fun (u : Unit) => ([] : va_W)) A) (y := yX6_near) (cc := cX6_near) (n := 3) (ret := (some .int)) (av := [.ref (ad 0), .int av, .int bv]) (by decide) (Nat.le_of_ble_eq_true rfl) ?_
  intro p e s m below meth c A ls C hA hP hD hK hS hl
  obtain ⟨hx, hb, hr, hml, hown, hT, hlk, hin⟩ := id C
  have hown : s.vm.findClass RX6 = some m.cls := hown
  have hl : lv_has ls 3 [(0, .ref (ad 0)), (1, .int av), (2, .int bv)] := hl
  refine lv_aload_n hx hb dX6_near_0 rfl (lv_at hl 0 rfl) ?_
  refine lv_iload_n hx hb dX6_near_1 rfl (lv_at hl 1 rfl) ?_
  refine gx_pi hP hS (gx_runV (na := 1) (As := [.int av]) (rest := []) (ci := 4) C hl.1 hK (gx_subP (wc := ([((ad 0), .inr (4, [.ref (ad 1), .ref (ad 2), .ref (ad 3), .ref (ad 4), .ref (ad 5), .ref (ad 6), .ref (ad 7), .ref (ad 8), .ref (ad 9), .int 0])), ((ad 1), .inr (0, [.ref (ad 10), .ref (ad 11), .ref (ad 12), .ref (ad 13), .ref (ad 14), .ref (ad 15), .ref (ad 16), .ref (ad 17), .ref (ad 18), .int 0, .int 0, .int 0, .int 0, .int 1, .int 0, .int 0, .int 0]))] : va_W)) hP [0, 1] rfl) ((hD.sub (ws' := ([((ad 0), .inr (4, [.ref (ad 1), .ref (ad 2), .ref (ad 3), .ref (ad 4), .ref (ad 5), .ref (ad 6), .ref (ad 7), .ref (ad 8), .ref (ad 9), .int 0])), ((ad 1), .inr (0, [.ref (ad 10), .ref (ad 11), .ref (ad 12), .ref (ad 13), .ref (ad 14), .ref (ad 15), .ref (ad 16), .ref (ad 17), .ref (ad 18), .int 0, .int 0, .int 0, .int 0, .int 1, .int 0, .int 0, .int 0]))] : va_W)) [0, 1] (by decide) rfl).weaken (fun _ _ _ _ => trivial)) (k_isOne l D k ad av _) gV_RX6_182 (by decide +kernel) rfl rfl ⟨Nat.le_of_ble_eq_true rfl, Nat.le_of_ble_eq_true rfl⟩ rfl rfl rfl rfl (Nat.le_of_ble_eq_true rfl) dX6_near_2 ⟨Nat.le_of_ble_eq_true rfl, Nat.le_of_ble_eq_true rfl⟩) (fun r_2 H locs c_1 hP hS => ?_)
  have c_1 : r_2 = 0 := c_1
  subst c_1
  refine lv_if_eq (tgt := 15) hx hb dX6_near_5 (by decide) (fun c_3 => ?_) (fun c_3 => absurd (by decide) c_3)
  refine lv_aload_n hx hb dX6_near_15 rfl (lv_at hl 0 rfl) ?_
  refine lv_bipush (v := (-2)) hx hb dX6_near_16 (by decide) ?_
  refine gx_ei (wc := ([((ad 0), .inr (4, [.ref (ad 1), .ref (ad 2), .ref (ad 3), .ref (ad 4), .ref (ad 5), .ref (ad 6), .ref (ad 7), .ref (ad 8), .ref (ad 9), .int 0])), ((ad 9), .inl (k 0, 5, .inl (fun _ => 0)))] : va_W)) (wr := [((ad 1), .inr (0, [.ref (ad 10), .ref (ad 11), .ref (ad 12), .ref (ad 13), .ref (ad 14), .ref (ad 15), .ref (ad 16), .ref (ad 17), .ref (ad 18), .int 0, .int 0, .int 0, .int 0, .int 1, .int 0, .int 0, .int 0]))]) (isC := [0, 2]) (isR := [1]) hP hD hS hA rfl rfl (by decide) (by decide) (gx_runV (na := 1) (As := [.int (-2)]) (rest := []) (ci := 4) C hl.1 hK (gx_subP (wc := ([((ad 0), .inr (4, [.ref (ad 1), .ref (ad 2), .ref (ad 3), .ref (ad 4), .ref (ad 5), .ref (ad 6), .ref (ad 7), .ref (ad 8), .ref (ad 9), .int 0])), ((ad 9), .inl (k 0, 5, .inl (fun _ => 0)))] : va_W)) hP [0, 2] rfl) ((hD.sub (ws' := ([((ad 0), .inr (4, [.ref (ad 1), .ref (ad 2), .ref (ad 3), .ref (ad 4), .ref (ad 5), .ref (ad 6), .ref (ad 7), .ref (ad 8), .ref (ad 9), .int 0])), ((ad 9), .inl (k 0, 5, .inl (fun _ => 0)))] : va_W)) [0, 2] (by decide) rfl).weaken (fun _ _ _ _ => trivial)) (k_refuse2 l D k ad _) gV_RX6_61 (by decide +kernel) rfl rfl ⟨Nat.le_of_ble_eq_true rfl, Nat.le_of_ble_eq_true rfl⟩ rfl rfl rfl rfl (Nat.le_of_ble_eq_true rfl) dX6_near_18 ⟨Nat.le_of_ble_eq_true rfl, Nat.le_of_ble_eq_true rfl⟩) (fun r_6 u_4 H locs h_5 hP hD hS => ?_)
  have h_5 : r_6 = -2 := h_5
  have hP : va_P D gx_cl [((ad 1), .inr (0, [.ref (ad 10), .ref (ad 11), .ref (ad 12), .ref (ad 13), .ref (ad 14), .ref (ad 15), .ref (ad 16), .ref (ad 17), .ref (ad 18), .int 0, .int 0, .int 0, .int 0, .int 1, .int 0, .int 0, .int 0]))] H := hP
  have hD : va_D A [((ad 1), .inr (0, [.ref (ad 10), .ref (ad 11), .ref (ad 12), .ref (ad 13), .ref (ad 14), .ref (ad 15), .ref (ad 16), .ref (ad 17), .ref (ad 18), .int 0, .int 0, .int 0, .int 0, .int 1, .int 0, .int 0, .int 0]))] := hD
  have eh_5 := h_5
  subst eh_5
  exact gx_retI C (u := ()) gx_nil gx_noneD hS (rfl) dX6_near_21
set_option maxHeartbeats 4000000 in
set_option maxRecDepth 100000 in
theorem x_together (l : Launch) (D : va_G) (k : Nat → ClassId) (ad : Nat → Nat) (av : Int32) (bv : Int32) (cv : Int32) (sz : Nat) : Met l yX6_together (.code yX6_together cX6_together 5 (some .int) :: gx_T) ({ frames := 2, cells := 0, slots := 0, locals := 43 }) (gx_Pre D k [.ref (ad 0), .int av, .int bv, .int cv] ([((ad 0), .inr (4, [.ref (ad 1), .ref (ad 2), .ref (ad 3), .ref (ad 4), .ref (ad 5), .ref (ad 6), .ref (ad 7), .ref (ad 8), .ref (ad 9), .int 0])), ((ad 1), .inr (0, [.ref (ad 10), .ref (ad 11), .ref (ad 12), .ref (ad 13), .ref (ad 14), .ref (ad 15), .ref (ad 16), .ref (ad 17), .ref (ad 18), .int 0, .int 0, .int 0, .int 0, .int 1, .int 0, .int 0, .int 0])), ((ad 9), .inl (k 0, 5, .inl (fun _ => 0)))]) sz) (gx_Qi D (fun (r : Int32) (u : Unit) => r = -2) (fun (u : Unit) => ([] : va_W)) (va_A ([((ad 0), .inr (4, [.ref (ad 1), .ref (ad 2), .ref (ad 3), .ref (ad 4), .ref (ad 5), .ref (ad 6), .ref (ad 7), .ref (ad 8), .ref (ad 9), .int 0])), ((ad 1), .inr (0, [.ref (ad 10), .ref (ad 11), .ref (ad 12), .ref (ad 13), .ref (ad 14), .ref (ad 15), .ref (ad 16), .ref (ad 17), .ref (ad 18), .int 0, .int 0, .int 0, .int 0, .int 1, .int 0, .int 0, .int 0])), ((ad 9), .inl (k 0, 5, .inl (fun _ => 0)))]) sz)) 0 0 (va_A ([((ad 0), .inr (4, [.ref (ad 1), .ref (ad 2), .ref (ad 3), .ref (ad 4), .ref (ad 5), .ref (ad 6), .ref (ad 7), .ref (ad 8), .ref (ad 9), .int 0])), ((ad 1), .inr (0, [.ref (ad 10), .ref (ad 11), .ref (ad 12), .ref (ad 13), .ref (ad 14), .ref (ad 15), .ref (ad 16), .ref (ad 17), .ref (ad 18), .int 0, .int 0, .int 0, .int 0, .int 1, .int 0, .int 0, .int 0])), ((ad 9), .inl (k 0, 5, .inl (fun _ => 0)))]) sz) := by
  refine gx_metE (Qc := fun A => gx_Qi D (fun (r : Int32) (u : Unit) => r = -2) (fun (u : Unit) => ([] : va_W)) A) (y := yX6_together) (cc := cX6_together) (n := 5) (ret := (some .int)) (av := [.ref (ad 0), .int av, .int bv, .int cv]) (by decide) (Nat.le_of_ble_eq_true rfl) ?_
  intro p e s m below meth c A ls C hA hP hD hK hS hl
  obtain ⟨hx, hb, hr, hml, hown, hT, hlk, hin⟩ := id C
  have hown : s.vm.findClass RX6 = some m.cls := hown
  have hl : lv_has ls 5 [(0, .ref (ad 0)), (1, .int av), (2, .int bv), (3, .int cv)] := hl
  refine lv_aload_n hx hb dX6_together_0 rfl (lv_at hl 0 rfl) ?_
  refine lv_iload_n hx hb dX6_together_1 rfl (lv_at hl 1 rfl) ?_
  refine gx_pi hP hS (gx_runV (na := 1) (As := [.int av]) (rest := []) (ci := 4) C hl.1 hK (gx_subP (wc := ([((ad 0), .inr (4, [.ref (ad 1), .ref (ad 2), .ref (ad 3), .ref (ad 4), .ref (ad 5), .ref (ad 6), .ref (ad 7), .ref (ad 8), .ref (ad 9), .int 0])), ((ad 1), .inr (0, [.ref (ad 10), .ref (ad 11), .ref (ad 12), .ref (ad 13), .ref (ad 14), .ref (ad 15), .ref (ad 16), .ref (ad 17), .ref (ad 18), .int 0, .int 0, .int 0, .int 0, .int 1, .int 0, .int 0, .int 0]))] : va_W)) hP [0, 1] rfl) ((hD.sub (ws' := ([((ad 0), .inr (4, [.ref (ad 1), .ref (ad 2), .ref (ad 3), .ref (ad 4), .ref (ad 5), .ref (ad 6), .ref (ad 7), .ref (ad 8), .ref (ad 9), .int 0])), ((ad 1), .inr (0, [.ref (ad 10), .ref (ad 11), .ref (ad 12), .ref (ad 13), .ref (ad 14), .ref (ad 15), .ref (ad 16), .ref (ad 17), .ref (ad 18), .int 0, .int 0, .int 0, .int 0, .int 1, .int 0, .int 0, .int 0]))] : va_W)) [0, 1] (by decide) rfl).weaken (fun _ _ _ _ => trivial)) (k_isOne l D k ad av _) gV_RX6_182 (by decide +kernel) rfl rfl ⟨Nat.le_of_ble_eq_true rfl, Nat.le_of_ble_eq_true rfl⟩ rfl rfl rfl rfl (Nat.le_of_ble_eq_true rfl) dX6_together_2 ⟨Nat.le_of_ble_eq_true rfl, Nat.le_of_ble_eq_true rfl⟩) (fun r_2 H locs c_1 hP hS => ?_)
  have c_1 : r_2 = 0 := c_1
  subst c_1
  refine lv_if_eq (tgt := 30) hx hb dX6_together_5 (by decide) (fun c_3 => ?_) (fun c_3 => absurd (by decide) c_3)
  refine lv_aload_n hx hb dX6_together_30 rfl (lv_at hl 0 rfl) ?_
  refine lv_bipush (v := (-2)) hx hb dX6_together_31 (by decide) ?_
  refine gx_ei (wc := ([((ad 0), .inr (4, [.ref (ad 1), .ref (ad 2), .ref (ad 3), .ref (ad 4), .ref (ad 5), .ref (ad 6), .ref (ad 7), .ref (ad 8), .ref (ad 9), .int 0])), ((ad 9), .inl (k 0, 5, .inl (fun _ => 0)))] : va_W)) (wr := [((ad 1), .inr (0, [.ref (ad 10), .ref (ad 11), .ref (ad 12), .ref (ad 13), .ref (ad 14), .ref (ad 15), .ref (ad 16), .ref (ad 17), .ref (ad 18), .int 0, .int 0, .int 0, .int 0, .int 1, .int 0, .int 0, .int 0]))]) (isC := [0, 2]) (isR := [1]) hP hD hS hA rfl rfl (by decide) (by decide) (gx_runV (na := 1) (As := [.int (-2)]) (rest := []) (ci := 4) C hl.1 hK (gx_subP (wc := ([((ad 0), .inr (4, [.ref (ad 1), .ref (ad 2), .ref (ad 3), .ref (ad 4), .ref (ad 5), .ref (ad 6), .ref (ad 7), .ref (ad 8), .ref (ad 9), .int 0])), ((ad 9), .inl (k 0, 5, .inl (fun _ => 0)))] : va_W)) hP [0, 2] rfl) ((hD.sub (ws' := ([((ad 0), .inr (4, [.ref (ad 1), .ref (ad 2), .ref (ad 3), .ref (ad 4), .ref (ad 5), .ref (ad 6), .ref (ad 7), .ref (ad 8), .ref (ad 9), .int 0])), ((ad 9), .inl (k 0, 5, .inl (fun _ => 0)))] : va_W)) [0, 2] (by decide) rfl).weaken (fun _ _ _ _ => trivial)) (k_refuse2 l D k ad _) gV_RX6_61 (by decide +kernel) rfl rfl ⟨Nat.le_of_ble_eq_true rfl, Nat.le_of_ble_eq_true rfl⟩ rfl rfl rfl rfl (Nat.le_of_ble_eq_true rfl) dX6_together_33 ⟨Nat.le_of_ble_eq_true rfl, Nat.le_of_ble_eq_true rfl⟩) (fun r_6 u_4 H locs h_5 hP hD hS => ?_)
  have h_5 : r_6 = -2 := h_5
  have hP : va_P D gx_cl [((ad 1), .inr (0, [.ref (ad 10), .ref (ad 11), .ref (ad 12), .ref (ad 13), .ref (ad 14), .ref (ad 15), .ref (ad 16), .ref (ad 17), .ref (ad 18), .int 0, .int 0, .int 0, .int 0, .int 1, .int 0, .int 0, .int 0]))] H := hP
  have hD : va_D A [((ad 1), .inr (0, [.ref (ad 10), .ref (ad 11), .ref (ad 12), .ref (ad 13), .ref (ad 14), .ref (ad 15), .ref (ad 16), .ref (ad 17), .ref (ad 18), .int 0, .int 0, .int 0, .int 0, .int 1, .int 0, .int 0, .int 0]))] := hD
  have eh_5 := h_5
  subst eh_5
  exact gx_retI C (u := ()) gx_nil gx_noneD hS (rfl) dX6_together_36
set_option maxHeartbeats 4000000 in
set_option maxRecDepth 100000 in
theorem x_frees (l : Launch) (D : va_G) (k : Nat → ClassId) (ad : Nat → Nat) (av : Int32) (sz : Nat) : Met l yX6_frees (.code yX6_frees cX6_frees 2 (some .int) :: gx_T) ({ frames := 2, cells := 0, slots := 0, locals := 43 }) (gx_Pre D k [.ref (ad 0), .int av] ([((ad 0), .inr (4, [.ref (ad 1), .ref (ad 2), .ref (ad 3), .ref (ad 4), .ref (ad 5), .ref (ad 6), .ref (ad 7), .ref (ad 8), .ref (ad 9), .int 0])), ((ad 1), .inr (0, [.ref (ad 10), .ref (ad 11), .ref (ad 12), .ref (ad 13), .ref (ad 14), .ref (ad 15), .ref (ad 16), .ref (ad 17), .ref (ad 18), .int 0, .int 0, .int 0, .int 0, .int 1, .int 0, .int 0, .int 0])), ((ad 9), .inl (k 0, 5, .inl (fun _ => 0)))]) sz) (gx_Qi D (fun (r : Int32) (u : Unit) => r = -2) (fun (u : Unit) => ([] : va_W)) (va_A ([((ad 0), .inr (4, [.ref (ad 1), .ref (ad 2), .ref (ad 3), .ref (ad 4), .ref (ad 5), .ref (ad 6), .ref (ad 7), .ref (ad 8), .ref (ad 9), .int 0])), ((ad 1), .inr (0, [.ref (ad 10), .ref (ad 11), .ref (ad 12), .ref (ad 13), .ref (ad 14), .ref (ad 15), .ref (ad 16), .ref (ad 17), .ref (ad 18), .int 0, .int 0, .int 0, .int 0, .int 1, .int 0, .int 0, .int 0])), ((ad 9), .inl (k 0, 5, .inl (fun _ => 0)))]) sz)) 0 0 (va_A ([((ad 0), .inr (4, [.ref (ad 1), .ref (ad 2), .ref (ad 3), .ref (ad 4), .ref (ad 5), .ref (ad 6), .ref (ad 7), .ref (ad 8), .ref (ad 9), .int 0])), ((ad 1), .inr (0, [.ref (ad 10), .ref (ad 11), .ref (ad 12), .ref (ad 13), .ref (ad 14), .ref (ad 15), .ref (ad 16), .ref (ad 17), .ref (ad 18), .int 0, .int 0, .int 0, .int 0, .int 1, .int 0, .int 0, .int 0])), ((ad 9), .inl (k 0, 5, .inl (fun _ => 0)))]) sz) := by
  refine gx_metE (Qc := fun A => gx_Qi D (fun (r : Int32) (u : Unit) => r = -2) (fun (u : Unit) => ([] : va_W)) A) (y := yX6_frees) (cc := cX6_frees) (n := 2) (ret := (some .int)) (av := [.ref (ad 0), .int av]) (by decide) (Nat.le_of_ble_eq_true rfl) ?_
  intro p e s m below meth c A ls C hA hP hD hK hS hl
  obtain ⟨hx, hb, hr, hml, hown, hT, hlk, hin⟩ := id C
  have hown : s.vm.findClass RX6 = some m.cls := hown
  have hl : lv_has ls 2 [(0, .ref (ad 0)), (1, .int av)] := hl
  refine lv_aload_n hx hb dX6_frees_0 rfl (lv_at hl 0 rfl) ?_
  refine lv_iload_n hx hb dX6_frees_1 rfl (lv_at hl 1 rfl) ?_
  refine gx_pi hP hS (gx_runV (na := 1) (As := [.int av]) (rest := []) (ci := 4) C hl.1 hK (gx_subP (wc := ([((ad 0), .inr (4, [.ref (ad 1), .ref (ad 2), .ref (ad 3), .ref (ad 4), .ref (ad 5), .ref (ad 6), .ref (ad 7), .ref (ad 8), .ref (ad 9), .int 0])), ((ad 1), .inr (0, [.ref (ad 10), .ref (ad 11), .ref (ad 12), .ref (ad 13), .ref (ad 14), .ref (ad 15), .ref (ad 16), .ref (ad 17), .ref (ad 18), .int 0, .int 0, .int 0, .int 0, .int 1, .int 0, .int 0, .int 0]))] : va_W)) hP [0, 1] rfl) ((hD.sub (ws' := ([((ad 0), .inr (4, [.ref (ad 1), .ref (ad 2), .ref (ad 3), .ref (ad 4), .ref (ad 5), .ref (ad 6), .ref (ad 7), .ref (ad 8), .ref (ad 9), .int 0])), ((ad 1), .inr (0, [.ref (ad 10), .ref (ad 11), .ref (ad 12), .ref (ad 13), .ref (ad 14), .ref (ad 15), .ref (ad 16), .ref (ad 17), .ref (ad 18), .int 0, .int 0, .int 0, .int 0, .int 1, .int 0, .int 0, .int 0]))] : va_W)) [0, 1] (by decide) rfl).weaken (fun _ _ _ _ => trivial)) (k_isOne l D k ad av _) gV_RX6_182 (by decide +kernel) rfl rfl ⟨Nat.le_of_ble_eq_true rfl, Nat.le_of_ble_eq_true rfl⟩ rfl rfl rfl rfl (Nat.le_of_ble_eq_true rfl) dX6_frees_2 ⟨Nat.le_of_ble_eq_true rfl, Nat.le_of_ble_eq_true rfl⟩) (fun r_2 H locs c_1 hP hS => ?_)
  have c_1 : r_2 = 0 := c_1
  subst c_1
  refine lv_if_ne (tgt := 15) hx hb dX6_frees_5 (by decide) (fun c_3 => absurd (by decide) c_3) (fun c_3 => ?_)
  refine lv_aload_n hx hb dX6_frees_8 rfl (lv_at hl 0 rfl) ?_
  refine lv_bipush (v := (-2)) hx hb dX6_frees_9 (by decide) ?_
  refine gx_ei (wc := ([((ad 0), .inr (4, [.ref (ad 1), .ref (ad 2), .ref (ad 3), .ref (ad 4), .ref (ad 5), .ref (ad 6), .ref (ad 7), .ref (ad 8), .ref (ad 9), .int 0])), ((ad 9), .inl (k 0, 5, .inl (fun _ => 0)))] : va_W)) (wr := [((ad 1), .inr (0, [.ref (ad 10), .ref (ad 11), .ref (ad 12), .ref (ad 13), .ref (ad 14), .ref (ad 15), .ref (ad 16), .ref (ad 17), .ref (ad 18), .int 0, .int 0, .int 0, .int 0, .int 1, .int 0, .int 0, .int 0]))]) (isC := [0, 2]) (isR := [1]) hP hD hS hA rfl rfl (by decide) (by decide) (gx_runV (na := 1) (As := [.int (-2)]) (rest := []) (ci := 4) C hl.1 hK (gx_subP (wc := ([((ad 0), .inr (4, [.ref (ad 1), .ref (ad 2), .ref (ad 3), .ref (ad 4), .ref (ad 5), .ref (ad 6), .ref (ad 7), .ref (ad 8), .ref (ad 9), .int 0])), ((ad 9), .inl (k 0, 5, .inl (fun _ => 0)))] : va_W)) hP [0, 2] rfl) ((hD.sub (ws' := ([((ad 0), .inr (4, [.ref (ad 1), .ref (ad 2), .ref (ad 3), .ref (ad 4), .ref (ad 5), .ref (ad 6), .ref (ad 7), .ref (ad 8), .ref (ad 9), .int 0])), ((ad 9), .inl (k 0, 5, .inl (fun _ => 0)))] : va_W)) [0, 2] (by decide) rfl).weaken (fun _ _ _ _ => trivial)) (k_refuse2 l D k ad _) gV_RX6_61 (by decide +kernel) rfl rfl ⟨Nat.le_of_ble_eq_true rfl, Nat.le_of_ble_eq_true rfl⟩ rfl rfl rfl rfl (Nat.le_of_ble_eq_true rfl) dX6_frees_11 ⟨Nat.le_of_ble_eq_true rfl, Nat.le_of_ble_eq_true rfl⟩) (fun r_6 u_4 H locs h_5 hP hD hS => ?_)
  have h_5 : r_6 = -2 := h_5
  have hP : va_P D gx_cl [((ad 1), .inr (0, [.ref (ad 10), .ref (ad 11), .ref (ad 12), .ref (ad 13), .ref (ad 14), .ref (ad 15), .ref (ad 16), .ref (ad 17), .ref (ad 18), .int 0, .int 0, .int 0, .int 0, .int 1, .int 0, .int 0, .int 0]))] H := hP
  have hD : va_D A [((ad 1), .inr (0, [.ref (ad 10), .ref (ad 11), .ref (ad 12), .ref (ad 13), .ref (ad 14), .ref (ad 15), .ref (ad 16), .ref (ad 17), .ref (ad 18), .int 0, .int 0, .int 0, .int 0, .int 1, .int 0, .int 0, .int 0]))] := hD
  have eh_5 := h_5
  subst eh_5
  exact gx_retI C (u := ()) gx_nil gx_noneD hS (rfl) dX6_frees_14
set_option maxHeartbeats 4000000 in
set_option maxRecDepth 100000 in
theorem x_send (l : Launch) (D : va_G) (k : Nat → ClassId) (ad : Nat → Nat) (av : Int32) (bv : Int32) (sz : Nat) : Met l yX6_send (.code yX6_send cX6_send 4 (some .int) :: gx_T) ({ frames := 2, cells := 0, slots := 0, locals := 43 }) (gx_Pre D k [.ref (ad 0), .int av, .int bv] ([((ad 0), .inr (4, [.ref (ad 1), .ref (ad 2), .ref (ad 3), .ref (ad 4), .ref (ad 5), .ref (ad 6), .ref (ad 7), .ref (ad 8), .ref (ad 9), .int 0])), ((ad 1), .inr (0, [.ref (ad 10), .ref (ad 11), .ref (ad 12), .ref (ad 13), .ref (ad 14), .ref (ad 15), .ref (ad 16), .ref (ad 17), .ref (ad 18), .int 0, .int 0, .int 0, .int 0, .int 1, .int 0, .int 0, .int 0])), ((ad 9), .inl (k 0, 5, .inl (fun _ => 0)))]) sz) (gx_Qi D (fun (r : Int32) (u : Unit) => r = -2) (fun (u : Unit) => ([] : va_W)) (va_A ([((ad 0), .inr (4, [.ref (ad 1), .ref (ad 2), .ref (ad 3), .ref (ad 4), .ref (ad 5), .ref (ad 6), .ref (ad 7), .ref (ad 8), .ref (ad 9), .int 0])), ((ad 1), .inr (0, [.ref (ad 10), .ref (ad 11), .ref (ad 12), .ref (ad 13), .ref (ad 14), .ref (ad 15), .ref (ad 16), .ref (ad 17), .ref (ad 18), .int 0, .int 0, .int 0, .int 0, .int 1, .int 0, .int 0, .int 0])), ((ad 9), .inl (k 0, 5, .inl (fun _ => 0)))]) sz)) 0 0 (va_A ([((ad 0), .inr (4, [.ref (ad 1), .ref (ad 2), .ref (ad 3), .ref (ad 4), .ref (ad 5), .ref (ad 6), .ref (ad 7), .ref (ad 8), .ref (ad 9), .int 0])), ((ad 1), .inr (0, [.ref (ad 10), .ref (ad 11), .ref (ad 12), .ref (ad 13), .ref (ad 14), .ref (ad 15), .ref (ad 16), .ref (ad 17), .ref (ad 18), .int 0, .int 0, .int 0, .int 0, .int 1, .int 0, .int 0, .int 0])), ((ad 9), .inl (k 0, 5, .inl (fun _ => 0)))]) sz) := by
  refine gx_metE (Qc := fun A => gx_Qi D (fun (r : Int32) (u : Unit) => r = -2) (fun (u : Unit) => ([] : va_W)) A) (y := yX6_send) (cc := cX6_send) (n := 4) (ret := (some .int)) (av := [.ref (ad 0), .int av, .int bv]) (by decide) (Nat.le_of_ble_eq_true rfl) ?_
  intro p e s m below meth c A ls C hA hP hD hK hS hl
  obtain ⟨hx, hb, hr, hml, hown, hT, hlk, hin⟩ := id C
  have hown : s.vm.findClass RX6 = some m.cls := hown
  have hl : lv_has ls 4 [(0, .ref (ad 0)), (1, .int av), (2, .int bv)] := hl
  refine lv_aload_n hx hb dX6_send_0 rfl (lv_at hl 0 rfl) ?_
  refine lv_iload_n hx hb dX6_send_1 rfl (lv_at hl 1 rfl) ?_
  refine gx_pi hP hS (gx_runV (na := 1) (As := [.int av]) (rest := []) (ci := 4) C hl.1 hK (gx_subP (wc := ([((ad 0), .inr (4, [.ref (ad 1), .ref (ad 2), .ref (ad 3), .ref (ad 4), .ref (ad 5), .ref (ad 6), .ref (ad 7), .ref (ad 8), .ref (ad 9), .int 0])), ((ad 1), .inr (0, [.ref (ad 10), .ref (ad 11), .ref (ad 12), .ref (ad 13), .ref (ad 14), .ref (ad 15), .ref (ad 16), .ref (ad 17), .ref (ad 18), .int 0, .int 0, .int 0, .int 0, .int 1, .int 0, .int 0, .int 0]))] : va_W)) hP [0, 1] rfl) ((hD.sub (ws' := ([((ad 0), .inr (4, [.ref (ad 1), .ref (ad 2), .ref (ad 3), .ref (ad 4), .ref (ad 5), .ref (ad 6), .ref (ad 7), .ref (ad 8), .ref (ad 9), .int 0])), ((ad 1), .inr (0, [.ref (ad 10), .ref (ad 11), .ref (ad 12), .ref (ad 13), .ref (ad 14), .ref (ad 15), .ref (ad 16), .ref (ad 17), .ref (ad 18), .int 0, .int 0, .int 0, .int 0, .int 1, .int 0, .int 0, .int 0]))] : va_W)) [0, 1] (by decide) rfl).weaken (fun _ _ _ _ => trivial)) (k_isOne l D k ad av _) gV_RX6_182 (by decide +kernel) rfl rfl ⟨Nat.le_of_ble_eq_true rfl, Nat.le_of_ble_eq_true rfl⟩ rfl rfl rfl rfl (Nat.le_of_ble_eq_true rfl) dX6_send_2 ⟨Nat.le_of_ble_eq_true rfl, Nat.le_of_ble_eq_true rfl⟩) (fun r_2 H locs c_1 hP hS => ?_)
  have c_1 : r_2 = 0 := c_1
  subst c_1
  refine lv_if_eq (tgt := 16) hx hb dX6_send_5 (by decide) (fun c_3 => ?_) (fun c_3 => absurd (by decide) c_3)
  refine lv_aload_n hx hb dX6_send_16 rfl (lv_at hl 0 rfl) ?_
  refine lv_bipush (v := (-2)) hx hb dX6_send_17 (by decide) ?_
  refine gx_ei (wc := ([((ad 0), .inr (4, [.ref (ad 1), .ref (ad 2), .ref (ad 3), .ref (ad 4), .ref (ad 5), .ref (ad 6), .ref (ad 7), .ref (ad 8), .ref (ad 9), .int 0])), ((ad 9), .inl (k 0, 5, .inl (fun _ => 0)))] : va_W)) (wr := [((ad 1), .inr (0, [.ref (ad 10), .ref (ad 11), .ref (ad 12), .ref (ad 13), .ref (ad 14), .ref (ad 15), .ref (ad 16), .ref (ad 17), .ref (ad 18), .int 0, .int 0, .int 0, .int 0, .int 1, .int 0, .int 0, .int 0]))]) (isC := [0, 2]) (isR := [1]) hP hD hS hA rfl rfl (by decide) (by decide) (gx_runV (na := 1) (As := [.int (-2)]) (rest := []) (ci := 4) C hl.1 hK (gx_subP (wc := ([((ad 0), .inr (4, [.ref (ad 1), .ref (ad 2), .ref (ad 3), .ref (ad 4), .ref (ad 5), .ref (ad 6), .ref (ad 7), .ref (ad 8), .ref (ad 9), .int 0])), ((ad 9), .inl (k 0, 5, .inl (fun _ => 0)))] : va_W)) hP [0, 2] rfl) ((hD.sub (ws' := ([((ad 0), .inr (4, [.ref (ad 1), .ref (ad 2), .ref (ad 3), .ref (ad 4), .ref (ad 5), .ref (ad 6), .ref (ad 7), .ref (ad 8), .ref (ad 9), .int 0])), ((ad 9), .inl (k 0, 5, .inl (fun _ => 0)))] : va_W)) [0, 2] (by decide) rfl).weaken (fun _ _ _ _ => trivial)) (k_refuse2 l D k ad _) gV_RX6_61 (by decide +kernel) rfl rfl ⟨Nat.le_of_ble_eq_true rfl, Nat.le_of_ble_eq_true rfl⟩ rfl rfl rfl rfl (Nat.le_of_ble_eq_true rfl) dX6_send_19 ⟨Nat.le_of_ble_eq_true rfl, Nat.le_of_ble_eq_true rfl⟩) (fun r_6 u_4 H locs h_5 hP hD hS => ?_)
  have h_5 : r_6 = -2 := h_5
  have hP : va_P D gx_cl [((ad 1), .inr (0, [.ref (ad 10), .ref (ad 11), .ref (ad 12), .ref (ad 13), .ref (ad 14), .ref (ad 15), .ref (ad 16), .ref (ad 17), .ref (ad 18), .int 0, .int 0, .int 0, .int 0, .int 1, .int 0, .int 0, .int 0]))] H := hP
  have hD : va_D A [((ad 1), .inr (0, [.ref (ad 10), .ref (ad 11), .ref (ad 12), .ref (ad 13), .ref (ad 14), .ref (ad 15), .ref (ad 16), .ref (ad 17), .ref (ad 18), .int 0, .int 0, .int 0, .int 0, .int 1, .int 0, .int 0, .int 0]))] := hD
  have eh_5 := h_5
  subst eh_5
  exact gx_retI C (u := ()) gx_nil gx_noneD hS (rfl) dX6_send_22
set_option maxHeartbeats 4000000 in
set_option maxRecDepth 100000 in
theorem x_wander (l : Launch) (D : va_G) (k : Nat → ClassId) (ad : Nat → Nat) (av : Int32) (bv : Int32) (sz : Nat) : Met l yX6_wander (.code yX6_wander cX6_wander 5 (some .int) :: gx_T) ({ frames := 2, cells := 0, slots := 0, locals := 43 }) (gx_Pre D k [.ref (ad 0), .int av, .int bv] ([((ad 0), .inr (4, [.ref (ad 1), .ref (ad 2), .ref (ad 3), .ref (ad 4), .ref (ad 5), .ref (ad 6), .ref (ad 7), .ref (ad 8), .ref (ad 9), .int 0])), ((ad 1), .inr (0, [.ref (ad 10), .ref (ad 11), .ref (ad 12), .ref (ad 13), .ref (ad 14), .ref (ad 15), .ref (ad 16), .ref (ad 17), .ref (ad 18), .int 0, .int 0, .int 0, .int 0, .int 1, .int 0, .int 0, .int 0])), ((ad 9), .inl (k 0, 5, .inl (fun _ => 0)))]) sz) (gx_Qi D (fun (r : Int32) (u : Unit) => r = -2) (fun (u : Unit) => ([] : va_W)) (va_A ([((ad 0), .inr (4, [.ref (ad 1), .ref (ad 2), .ref (ad 3), .ref (ad 4), .ref (ad 5), .ref (ad 6), .ref (ad 7), .ref (ad 8), .ref (ad 9), .int 0])), ((ad 1), .inr (0, [.ref (ad 10), .ref (ad 11), .ref (ad 12), .ref (ad 13), .ref (ad 14), .ref (ad 15), .ref (ad 16), .ref (ad 17), .ref (ad 18), .int 0, .int 0, .int 0, .int 0, .int 1, .int 0, .int 0, .int 0])), ((ad 9), .inl (k 0, 5, .inl (fun _ => 0)))]) sz)) 0 0 (va_A ([((ad 0), .inr (4, [.ref (ad 1), .ref (ad 2), .ref (ad 3), .ref (ad 4), .ref (ad 5), .ref (ad 6), .ref (ad 7), .ref (ad 8), .ref (ad 9), .int 0])), ((ad 1), .inr (0, [.ref (ad 10), .ref (ad 11), .ref (ad 12), .ref (ad 13), .ref (ad 14), .ref (ad 15), .ref (ad 16), .ref (ad 17), .ref (ad 18), .int 0, .int 0, .int 0, .int 0, .int 1, .int 0, .int 0, .int 0])), ((ad 9), .inl (k 0, 5, .inl (fun _ => 0)))]) sz) := by
  refine gx_metE (Qc := fun A => gx_Qi D (fun (r : Int32) (u : Unit) => r = -2) (fun (u : Unit) => ([] : va_W)) A) (y := yX6_wander) (cc := cX6_wander) (n := 5) (ret := (some .int)) (av := [.ref (ad 0), .int av, .int bv]) (by decide) (Nat.le_of_ble_eq_true rfl) ?_
  intro p e s m below meth c A ls C hA hP hD hK hS hl
  obtain ⟨hx, hb, hr, hml, hown, hT, hlk, hin⟩ := id C
  have hown : s.vm.findClass RX6 = some m.cls := hown
  have hl : lv_has ls 5 [(0, .ref (ad 0)), (1, .int av), (2, .int bv)] := hl
  refine lv_aload_n hx hb dX6_wander_0 rfl (lv_at hl 0 rfl) ?_
  refine lv_iload_n hx hb dX6_wander_1 rfl (lv_at hl 1 rfl) ?_
  refine gx_pi hP hS (gx_runV (na := 1) (As := [.int av]) (rest := []) (ci := 4) C hl.1 hK (gx_subP (wc := ([((ad 0), .inr (4, [.ref (ad 1), .ref (ad 2), .ref (ad 3), .ref (ad 4), .ref (ad 5), .ref (ad 6), .ref (ad 7), .ref (ad 8), .ref (ad 9), .int 0])), ((ad 1), .inr (0, [.ref (ad 10), .ref (ad 11), .ref (ad 12), .ref (ad 13), .ref (ad 14), .ref (ad 15), .ref (ad 16), .ref (ad 17), .ref (ad 18), .int 0, .int 0, .int 0, .int 0, .int 1, .int 0, .int 0, .int 0]))] : va_W)) hP [0, 1] rfl) ((hD.sub (ws' := ([((ad 0), .inr (4, [.ref (ad 1), .ref (ad 2), .ref (ad 3), .ref (ad 4), .ref (ad 5), .ref (ad 6), .ref (ad 7), .ref (ad 8), .ref (ad 9), .int 0])), ((ad 1), .inr (0, [.ref (ad 10), .ref (ad 11), .ref (ad 12), .ref (ad 13), .ref (ad 14), .ref (ad 15), .ref (ad 16), .ref (ad 17), .ref (ad 18), .int 0, .int 0, .int 0, .int 0, .int 1, .int 0, .int 0, .int 0]))] : va_W)) [0, 1] (by decide) rfl).weaken (fun _ _ _ _ => trivial)) (k_isOne l D k ad av _) gV_RX6_182 (by decide +kernel) rfl rfl ⟨Nat.le_of_ble_eq_true rfl, Nat.le_of_ble_eq_true rfl⟩ rfl rfl rfl rfl (Nat.le_of_ble_eq_true rfl) dX6_wander_2 ⟨Nat.le_of_ble_eq_true rfl, Nat.le_of_ble_eq_true rfl⟩) (fun r_2 H locs c_1 hP hS => ?_)
  have c_1 : r_2 = 0 := c_1
  subst c_1
  refine lv_if_eq (tgt := 18) hx hb dX6_wander_5 (by decide) (fun c_3 => ?_) (fun c_3 => absurd (by decide) c_3)
  refine lv_aload_n hx hb dX6_wander_18 rfl (lv_at hl 0 rfl) ?_
  refine lv_bipush (v := (-2)) hx hb dX6_wander_19 (by decide) ?_
  refine gx_ei (wc := ([((ad 0), .inr (4, [.ref (ad 1), .ref (ad 2), .ref (ad 3), .ref (ad 4), .ref (ad 5), .ref (ad 6), .ref (ad 7), .ref (ad 8), .ref (ad 9), .int 0])), ((ad 9), .inl (k 0, 5, .inl (fun _ => 0)))] : va_W)) (wr := [((ad 1), .inr (0, [.ref (ad 10), .ref (ad 11), .ref (ad 12), .ref (ad 13), .ref (ad 14), .ref (ad 15), .ref (ad 16), .ref (ad 17), .ref (ad 18), .int 0, .int 0, .int 0, .int 0, .int 1, .int 0, .int 0, .int 0]))]) (isC := [0, 2]) (isR := [1]) hP hD hS hA rfl rfl (by decide) (by decide) (gx_runV (na := 1) (As := [.int (-2)]) (rest := []) (ci := 4) C hl.1 hK (gx_subP (wc := ([((ad 0), .inr (4, [.ref (ad 1), .ref (ad 2), .ref (ad 3), .ref (ad 4), .ref (ad 5), .ref (ad 6), .ref (ad 7), .ref (ad 8), .ref (ad 9), .int 0])), ((ad 9), .inl (k 0, 5, .inl (fun _ => 0)))] : va_W)) hP [0, 2] rfl) ((hD.sub (ws' := ([((ad 0), .inr (4, [.ref (ad 1), .ref (ad 2), .ref (ad 3), .ref (ad 4), .ref (ad 5), .ref (ad 6), .ref (ad 7), .ref (ad 8), .ref (ad 9), .int 0])), ((ad 9), .inl (k 0, 5, .inl (fun _ => 0)))] : va_W)) [0, 2] (by decide) rfl).weaken (fun _ _ _ _ => trivial)) (k_refuse2 l D k ad _) gV_RX6_61 (by decide +kernel) rfl rfl ⟨Nat.le_of_ble_eq_true rfl, Nat.le_of_ble_eq_true rfl⟩ rfl rfl rfl rfl (Nat.le_of_ble_eq_true rfl) dX6_wander_21 ⟨Nat.le_of_ble_eq_true rfl, Nat.le_of_ble_eq_true rfl⟩) (fun r_6 u_4 H locs h_5 hP hD hS => ?_)
  have h_5 : r_6 = -2 := h_5
  have hP : va_P D gx_cl [((ad 1), .inr (0, [.ref (ad 10), .ref (ad 11), .ref (ad 12), .ref (ad 13), .ref (ad 14), .ref (ad 15), .ref (ad 16), .ref (ad 17), .ref (ad 18), .int 0, .int 0, .int 0, .int 0, .int 1, .int 0, .int 0, .int 0]))] H := hP
  have hD : va_D A [((ad 1), .inr (0, [.ref (ad 10), .ref (ad 11), .ref (ad 12), .ref (ad 13), .ref (ad 14), .ref (ad 15), .ref (ad 16), .ref (ad 17), .ref (ad 18), .int 0, .int 0, .int 0, .int 0, .int 1, .int 0, .int 0, .int 0]))] := hD
  have eh_5 := h_5
  subst eh_5
  exact gx_retI C (u := ()) gx_nil gx_noneD hS (rfl) dX6_wander_24
set_option maxHeartbeats 4000000 in
set_option maxRecDepth 100000 in
theorem x_year (l : Launch) (D : va_G) (k : Nat → ClassId) (ad : Nat → Nat) (sz : Nat) : Met l yX6_year (.code yX6_year cX6_year 1 (some .int) :: gx_T) ({ frames := 0, cells := 0, slots := 0, locals := 0 }) (gx_Pre D k [.ref (ad 0)] ([((ad 0), .inr (4, [.ref (ad 1), .ref (ad 2), .ref (ad 3), .ref (ad 4), .ref (ad 5), .ref (ad 6), .ref (ad 7), .ref (ad 8), .ref (ad 9), .int 0])), ((ad 1), .inr (0, [.ref (ad 10), .ref (ad 11), .ref (ad 12), .ref (ad 13), .ref (ad 14), .ref (ad 15), .ref (ad 16), .ref (ad 17), .ref (ad 18), .int 0, .int 0, .int 0, .int 0, .int 1, .int 0, .int 0, .int 0]))]) sz) (gx_Qi D (fun (r : Int32) (u : Unit) => r = 1) (fun (u : Unit) => ([] : va_W)) (va_A ([((ad 0), .inr (4, [.ref (ad 1), .ref (ad 2), .ref (ad 3), .ref (ad 4), .ref (ad 5), .ref (ad 6), .ref (ad 7), .ref (ad 8), .ref (ad 9), .int 0])), ((ad 1), .inr (0, [.ref (ad 10), .ref (ad 11), .ref (ad 12), .ref (ad 13), .ref (ad 14), .ref (ad 15), .ref (ad 16), .ref (ad 17), .ref (ad 18), .int 0, .int 0, .int 0, .int 0, .int 1, .int 0, .int 0, .int 0]))]) sz)) 0 0 (va_A ([((ad 0), .inr (4, [.ref (ad 1), .ref (ad 2), .ref (ad 3), .ref (ad 4), .ref (ad 5), .ref (ad 6), .ref (ad 7), .ref (ad 8), .ref (ad 9), .int 0])), ((ad 1), .inr (0, [.ref (ad 10), .ref (ad 11), .ref (ad 12), .ref (ad 13), .ref (ad 14), .ref (ad 15), .ref (ad 16), .ref (ad 17), .ref (ad 18), .int 0, .int 0, .int 0, .int 0, .int 1, .int 0, .int 0, .int 0]))]) sz) := by
  refine gx_metE (Qc := fun A => gx_Qi D (fun (r : Int32) (u : Unit) => r = 1) (fun (u : Unit) => ([] : va_W)) A) (y := yX6_year) (cc := cX6_year) (n := 1) (ret := (some .int)) (av := [.ref (ad 0)]) (by decide) (Nat.le_of_ble_eq_true rfl) ?_
  intro p e s m below meth c A ls C hA hP hD hK hS hl
  obtain ⟨hx, hb, hr, hml, hown, hT, hlk, hin⟩ := id C
  have hown : s.vm.findClass RX6 = some m.cls := hown
  have hl : lv_has ls 1 [(0, .ref (ad 0))] := hl
  refine lv_aload_n hx hb dX6_year_0 rfl (lv_at hl 0 rfl) ?_
  refine va_get (D := D) (ci := 4) (v := .ref (ad 1)) (C := RX6) (T := TX6) (N := 10) hx hb hT iw_TX6 hown hK.1 hP 0 rfl rfl 0 (by decide) (hT _ wd_271) (fun _ h9 => h9) rfl dX6_year_1 ?_
  refine lv_dup hx hb dX6_year_4 rfl ?_
  refine va_get (D := D) (ci := 0) (v := .int 0) (C := RX1) (T := TX1) (N := 17) hx hb hT iw_TX1 hown hK.1 hP 1 rfl rfl 11 (by decide) (hT _ wd_140) (fun _ h9 => h9) rfl dX6_year_5 ?_
  refine lv_iconst (v := 1) hx hb dX6_year_8 (by decide) ?_
  refine lv_iadd hx hb dX6_year_9 ?_
  refine gx_cst (v := 1) (by decide) ?_
  refine va_put (D := D) (ci := 0) (v := .int 1) (ty := .int) (C := RX1) (T := TX1) (N := 17) hx hb hT iw_TX1 tyX1 tyX1_ok nmX1 hown hK.1 hP hD hS 1 rfl rfl 11 (by decide) (hT _ wd_140) (fun _ h9 => h9) rfl (by decide +kernel) rfl rfl (Nat.le_of_ble_eq_true rfl) dX6_year_10 (fun H locs hP hD hS => ?_)
  have hP : va_P D gx_cl [((ad 0), .inr (4, [.ref (ad 1), .ref (ad 2), .ref (ad 3), .ref (ad 4), .ref (ad 5), .ref (ad 6), .ref (ad 7), .ref (ad 8), .ref (ad 9), .int 0])), ((ad 1), .inr (0, [.ref (ad 10), .ref (ad 11), .ref (ad 12), .ref (ad 13), .ref (ad 14), .ref (ad 15), .ref (ad 16), .ref (ad 17), .ref (ad 18), .int 0, .int 0, .int 1, .int 0, .int 1, .int 0, .int 0, .int 0]))] H := hP
  have hD : va_D A [((ad 0), .inr (4, [.ref (ad 1), .ref (ad 2), .ref (ad 3), .ref (ad 4), .ref (ad 5), .ref (ad 6), .ref (ad 7), .ref (ad 8), .ref (ad 9), .int 0])), ((ad 1), .inr (0, [.ref (ad 10), .ref (ad 11), .ref (ad 12), .ref (ad 13), .ref (ad 14), .ref (ad 15), .ref (ad 16), .ref (ad 17), .ref (ad 18), .int 0, .int 0, .int 1, .int 0, .int 1, .int 0, .int 0, .int 0]))] := hD
  refine lv_aload_n hx hb dX6_year_13 rfl (lv_at hl 0 rfl) ?_
  refine va_get (D := D) (ci := 4) (v := .ref (ad 1)) (C := RX6) (T := TX6) (N := 10) hx hb hT iw_TX6 hown hK.1 hP 0 rfl rfl 0 (by decide) (hT _ wd_271) (fun _ h9 => h9) rfl dX6_year_14 ?_
  refine va_get (D := D) (ci := 0) (v := .int 1) (C := RX1) (T := TX1) (N := 17) hx hb hT iw_TX1 hown hK.1 hP 1 rfl rfl 11 (by decide) (hT _ wd_140) (fun _ h9 => h9) rfl dX6_year_17 ?_
  exact gx_retI C (u := ()) gx_nil gx_noneD hS (rfl) dX6_year_20
set_option maxHeartbeats 4000000 in
set_option maxRecDepth 100000 in
theorem x_fast (l : Launch) (D : va_G) (k : Nat → ClassId) (ad : Nat → Nat) (zv : Int32) (sz : Nat) : Met l yX6_fast (.code yX6_fast cX6_fast 5 (some .int) :: gx_T) ({ frames := 0, cells := 0, slots := 0, locals := 0 }) (gx_Pre D k [.ref (ad 0), .int zv] ([((ad 0), .inr (4, [.ref (ad 1), .ref (ad 2), .ref (ad 3), .ref (ad 4), .ref (ad 5), .ref (ad 6), .ref (ad 7), .ref (ad 8), .ref (ad 9), .int 0])), ((ad 1), .inr (0, [.ref (ad 10), .ref (ad 11), .ref (ad 12), .ref (ad 13), .ref (ad 14), .ref (ad 15), .ref (ad 16), .ref (ad 17), .ref (ad 18), .int 0, .int 0, .int 0, .int 0, .int 1, .int 0, .int 0, .int 0]))]) sz) (gx_Pi (fun r => r = 0)) 0 0 gx_No := by
  refine gx_metP (y := yX6_fast) (cc := cX6_fast) (n := 5) (ret := (some .int)) (av := [.ref (ad 0), .int zv]) (by decide) (Nat.le_of_ble_eq_true rfl) ?_
  intro p e s m below meth c ls C hP hD hK hS hl
  obtain ⟨hx, hb, hr, hml, hown, hT, hlk, hin⟩ := id C
  have hown : s.vm.findClass RX6 = some m.cls := hown
  have hl : lv_has ls 5 [(0, .ref (ad 0)), (1, .int zv)] := hl
  refine lv_iconst (v := 0) hx hb dX6_fast_0 (by decide) ?_
  refine lv_istore_n (lv' := [(2, .int 0), (0, .ref (ad 0)), (1, .int zv)]) hx hb dX6_fast_1 rfl hl (by decide) rfl (fun ls hl => ?_)
  refine lv_iconst (v := 0) hx hb dX6_fast_2 (by decide) ?_
  refine lv_istore_n (lv' := [(3, .int 0), (2, .int 0), (0, .ref (ad 0)), (1, .int zv)]) hx hb dX6_fast_3 rfl hl (by decide) rfl (fun ls hl => ?_)
  refine lv_iload_n hx hb dX6_fast_4 rfl (lv_at hl 0 rfl) ?_
  refine lv_aload_n hx hb dX6_fast_5 rfl (lv_at hl 2 rfl) ?_
  refine va_get (D := D) (ci := 4) (v := .ref (ad 1)) (C := RX6) (T := TX6) (N := 10) hx hb hT iw_TX6 hown hK.1 hP 0 rfl rfl 0 (by decide) (hT _ wd_271) (fun _ h9 => h9) rfl dX6_fast_6 ?_
  refine va_get (D := D) (ci := 0) (v := .int 0) (C := RX1) (T := TX1) (N := 17) hx hb hT iw_TX1 hown hK.1 hP 1 rfl rfl 10 (by decide) (hT _ wd_138) (fun _ h9 => h9) rfl dX6_fast_9 ?_
  refine lv_icmp_ge (tgt := 73) hx hb dX6_fast_12 (by decide) (fun c_1 => ?_) (fun c_1 => absurd (by decide) c_1)
  refine lv_iload_n hx hb dX6_fast_73 rfl (lv_at hl 1 rfl) ?_
  exact gx_retP C hS (rfl) dX6_fast_74
set_option maxHeartbeats 4000000 in
set_option maxRecDepth 100000 in
theorem x_seed (l : Launch) (D : va_G) (k : Nat → ClassId) (ad : Nat → Nat) (vv : Int32) (sz : Nat) : Met l yX6_seed (.code yX6_seed cX6_seed 3 (some .int) :: gx_T) ({ frames := 0, cells := 0, slots := 0, locals := 0 }) (gx_Pre D k [.ref (ad 0), .int vv] ([((ad 0), .inr (4, [.ref (ad 1), .ref (ad 2), .ref (ad 3), .ref (ad 4), .ref (ad 5), .ref (ad 6), .ref (ad 7), .ref (ad 8), .ref (ad 9), .int 0])), ((ad 1), .inr (0, [.ref (ad 10), .ref (ad 11), .ref (ad 12), .ref (ad 13), .ref (ad 14), .ref (ad 15), .ref (ad 16), .ref (ad 17), .ref (ad 18), .int 0, .int 0, .int 0, .int 0, .int 1, .int 0, .int 0, .int 0]))]) sz) (gx_Qi D (fun (r : Int32) (u : Unit) => r = 1) (fun (u : Unit) => ([] : va_W)) (va_A ([((ad 0), .inr (4, [.ref (ad 1), .ref (ad 2), .ref (ad 3), .ref (ad 4), .ref (ad 5), .ref (ad 6), .ref (ad 7), .ref (ad 8), .ref (ad 9), .int 0])), ((ad 1), .inr (0, [.ref (ad 10), .ref (ad 11), .ref (ad 12), .ref (ad 13), .ref (ad 14), .ref (ad 15), .ref (ad 16), .ref (ad 17), .ref (ad 18), .int 0, .int 0, .int 0, .int 0, .int 1, .int 0, .int 0, .int 0]))]) sz)) 0 0 (va_A ([((ad 0), .inr (4, [.ref (ad 1), .ref (ad 2), .ref (ad 3), .ref (ad 4), .ref (ad 5), .ref (ad 6), .ref (ad 7), .ref (ad 8), .ref (ad 9), .int 0])), ((ad 1), .inr (0, [.ref (ad 10), .ref (ad 11), .ref (ad 12), .ref (ad 13), .ref (ad 14), .ref (ad 15), .ref (ad 16), .ref (ad 17), .ref (ad 18), .int 0, .int 0, .int 0, .int 0, .int 1, .int 0, .int 0, .int 0]))]) sz) := by
  refine gx_metE (Qc := fun A => gx_Qi D (fun (r : Int32) (u : Unit) => r = 1) (fun (u : Unit) => ([] : va_W)) A) (y := yX6_seed) (cc := cX6_seed) (n := 3) (ret := (some .int)) (av := [.ref (ad 0), .int vv]) (by decide) (Nat.le_of_ble_eq_true rfl) ?_
  intro p e s m below meth c A ls C hA hP hD hK hS hl
  obtain ⟨hx, hb, hr, hml, hown, hT, hlk, hin⟩ := id C
  have hown : s.vm.findClass RX6 = some m.cls := hown
  have hl : lv_has ls 3 [(0, .ref (ad 0)), (1, .int vv)] := hl
  refine lv_aload_n hx hb dX6_seed_0 rfl (lv_at hl 0 rfl) ?_
  refine va_get (D := D) (ci := 4) (v := .ref (ad 1)) (C := RX6) (T := TX6) (N := 10) hx hb hT iw_TX6 hown hK.1 hP 0 rfl rfl 0 (by decide) (hT _ wd_271) (fun _ h9 => h9) rfl dX6_seed_1 ?_
  refine va_get (D := D) (ci := 0) (v := .int 1) (C := RX1) (T := TX1) (N := 17) hx hb hT iw_TX1 hown hK.1 hP 1 rfl rfl 13 (by decide) (hT _ wd_145) (fun _ h9 => h9) rfl dX6_seed_4 ?_
  refine lv_istore_n (lv' := [(2, .int 1), (0, .ref (ad 0)), (1, .int vv)]) hx hb dX6_seed_7 rfl hl (by decide) rfl (fun ls hl => ?_)
  refine lv_aload_n hx hb dX6_seed_8 rfl (lv_at hl 1 rfl) ?_
  refine va_get (D := D) (ci := 4) (v := .ref (ad 1)) (C := RX6) (T := TX6) (N := 10) hx hb hT iw_TX6 hown hK.1 hP 0 rfl rfl 0 (by decide) (hT _ wd_271) (fun _ h9 => h9) rfl dX6_seed_9 ?_
  refine lv_iload_n hx hb dX6_seed_12 rfl (lv_at hl 2 rfl) ?_
  refine va_put (D := D) (ci := 0) (v := .int vv) (ty := .int) (C := RX1) (T := TX1) (N := 17) hx hb hT iw_TX1 tyX1 tyX1_ok nmX1 hown hK.1 hP hD hS 1 rfl rfl 13 (by decide) (hT _ wd_145) (fun _ h9 => h9) rfl (by decide +kernel) rfl rfl (Nat.le_of_ble_eq_true rfl) dX6_seed_13 (fun H locs hP hD hS => ?_)
  have hP : va_P D gx_cl [((ad 0), .inr (4, [.ref (ad 1), .ref (ad 2), .ref (ad 3), .ref (ad 4), .ref (ad 5), .ref (ad 6), .ref (ad 7), .ref (ad 8), .ref (ad 9), .int 0])), ((ad 1), .inr (0, [.ref (ad 10), .ref (ad 11), .ref (ad 12), .ref (ad 13), .ref (ad 14), .ref (ad 15), .ref (ad 16), .ref (ad 17), .ref (ad 18), .int 0, .int 0, .int 0, .int 0, .int vv, .int 0, .int 0, .int 0]))] H := hP
  have hD : va_D A [((ad 0), .inr (4, [.ref (ad 1), .ref (ad 2), .ref (ad 3), .ref (ad 4), .ref (ad 5), .ref (ad 6), .ref (ad 7), .ref (ad 8), .ref (ad 9), .int 0])), ((ad 1), .inr (0, [.ref (ad 10), .ref (ad 11), .ref (ad 12), .ref (ad 13), .ref (ad 14), .ref (ad 15), .ref (ad 16), .ref (ad 17), .ref (ad 18), .int 0, .int 0, .int 0, .int 0, .int vv, .int 0, .int 0, .int 0]))] := hD
  refine lv_iload_n hx hb dX6_seed_16 rfl (lv_at hl 0 rfl) ?_
  exact gx_retI C (u := ()) gx_nil gx_noneD hS (rfl) dX6_seed_17
set_option maxHeartbeats 4000000 in
set_option maxRecDepth 100000 in
theorem x_image (l : Launch) (D : va_G) (k : Nat → ClassId) (ad : Nat → Nat) (wn : Nat → Int32) (wk : Nat → Int32) (sz : Nat) : Met l yX6_image (.code yX6_image cX6_image 1 (some .int) :: gx_T) ({ frames := 2, cells := 0, slots := 0, locals := 81 }) (gx_Pre D k [.ref (ad 0)] ([((ad 0), .inr (4, [.ref (ad 1), .ref (ad 2), .ref (ad 3), .ref (ad 4), .ref (ad 5), .ref (ad 6), .ref (ad 7), .ref (ad 8), .ref (ad 9), .int 0])), ((ad 1), .inr (0, [.ref (ad 10), .ref (ad 11), .ref (ad 12), .ref (ad 13), .ref (ad 14), .ref (ad 15), .ref (ad 16), .ref (ad 17), .ref (ad 18), .int 0, .int 0, .int 0, .int 0, .int 1, .int 0, .int 0, .int 0])), ((ad 2), .inr (0, [.ref (ad 20), .ref (ad 21), .ref (ad 22), .ref (ad 23), .ref (ad 24), .ref (ad 25), .ref (ad 26), .ref (ad 27), .ref (ad 28), .int 0, .int 0, .int 0, .int 0, .int 1, .int 0, .int 0, .int 0])), ((ad 10), .inl (k 0, 16, .inl (fun _ => 0))), ((ad 11), .inl (k 0, 16, .inl (fun _ => 0))), ((ad 12), .inl (k 0, 16, .inl (fun _ => 0))), ((ad 13), .inl (k 0, 16, .inl (fun _ => 0))), ((ad 14), .inl (k 0, 6, .inl (fun _ => 0))), ((ad 15), .inl (k 0, 6, .inl (fun _ => 0))), ((ad 16), .inl (k 0, 6, .inl (fun _ => 0))), ((ad 17), .inl (k 0, 6, .inl (fun _ => 0))), ((ad 18), .inl (k 0, 96, .inl wn)), ((ad 20), .inl (k 0, 16, .inl (fun _ => 0))), ((ad 21), .inl (k 0, 16, .inl (fun _ => 0))), ((ad 22), .inl (k 0, 16, .inl (fun _ => 0))), ((ad 23), .inl (k 0, 16, .inl (fun _ => 0))), ((ad 24), .inl (k 0, 6, .inl (fun _ => 0))), ((ad 25), .inl (k 0, 6, .inl (fun _ => 0))), ((ad 26), .inl (k 0, 6, .inl (fun _ => 0))), ((ad 27), .inl (k 0, 6, .inl (fun _ => 0))), ((ad 28), .inl (k 0, 96, .inl wk))]) sz) (gx_Qi D (fun (r : Int32) (u : Unit) => r = 1) (fun (u : Unit) => ([] : va_W)) (va_A ([((ad 0), .inr (4, [.ref (ad 1), .ref (ad 2), .ref (ad 3), .ref (ad 4), .ref (ad 5), .ref (ad 6), .ref (ad 7), .ref (ad 8), .ref (ad 9), .int 0])), ((ad 1), .inr (0, [.ref (ad 10), .ref (ad 11), .ref (ad 12), .ref (ad 13), .ref (ad 14), .ref (ad 15), .ref (ad 16), .ref (ad 17), .ref (ad 18), .int 0, .int 0, .int 0, .int 0, .int 1, .int 0, .int 0, .int 0])), ((ad 2), .inr (0, [.ref (ad 20), .ref (ad 21), .ref (ad 22), .ref (ad 23), .ref (ad 24), .ref (ad 25), .ref (ad 26), .ref (ad 27), .ref (ad 28), .int 0, .int 0, .int 0, .int 0, .int 1, .int 0, .int 0, .int 0])), ((ad 10), .inl (k 0, 16, .inl (fun _ => 0))), ((ad 11), .inl (k 0, 16, .inl (fun _ => 0))), ((ad 12), .inl (k 0, 16, .inl (fun _ => 0))), ((ad 13), .inl (k 0, 16, .inl (fun _ => 0))), ((ad 14), .inl (k 0, 6, .inl (fun _ => 0))), ((ad 15), .inl (k 0, 6, .inl (fun _ => 0))), ((ad 16), .inl (k 0, 6, .inl (fun _ => 0))), ((ad 17), .inl (k 0, 6, .inl (fun _ => 0))), ((ad 18), .inl (k 0, 96, .inl wn)), ((ad 20), .inl (k 0, 16, .inl (fun _ => 0))), ((ad 21), .inl (k 0, 16, .inl (fun _ => 0))), ((ad 22), .inl (k 0, 16, .inl (fun _ => 0))), ((ad 23), .inl (k 0, 16, .inl (fun _ => 0))), ((ad 24), .inl (k 0, 6, .inl (fun _ => 0))), ((ad 25), .inl (k 0, 6, .inl (fun _ => 0))), ((ad 26), .inl (k 0, 6, .inl (fun _ => 0))), ((ad 27), .inl (k 0, 6, .inl (fun _ => 0))), ((ad 28), .inl (k 0, 96, .inl wk))]) sz)) 0 0 (va_A ([((ad 0), .inr (4, [.ref (ad 1), .ref (ad 2), .ref (ad 3), .ref (ad 4), .ref (ad 5), .ref (ad 6), .ref (ad 7), .ref (ad 8), .ref (ad 9), .int 0])), ((ad 1), .inr (0, [.ref (ad 10), .ref (ad 11), .ref (ad 12), .ref (ad 13), .ref (ad 14), .ref (ad 15), .ref (ad 16), .ref (ad 17), .ref (ad 18), .int 0, .int 0, .int 0, .int 0, .int 1, .int 0, .int 0, .int 0])), ((ad 2), .inr (0, [.ref (ad 20), .ref (ad 21), .ref (ad 22), .ref (ad 23), .ref (ad 24), .ref (ad 25), .ref (ad 26), .ref (ad 27), .ref (ad 28), .int 0, .int 0, .int 0, .int 0, .int 1, .int 0, .int 0, .int 0])), ((ad 10), .inl (k 0, 16, .inl (fun _ => 0))), ((ad 11), .inl (k 0, 16, .inl (fun _ => 0))), ((ad 12), .inl (k 0, 16, .inl (fun _ => 0))), ((ad 13), .inl (k 0, 16, .inl (fun _ => 0))), ((ad 14), .inl (k 0, 6, .inl (fun _ => 0))), ((ad 15), .inl (k 0, 6, .inl (fun _ => 0))), ((ad 16), .inl (k 0, 6, .inl (fun _ => 0))), ((ad 17), .inl (k 0, 6, .inl (fun _ => 0))), ((ad 18), .inl (k 0, 96, .inl wn)), ((ad 20), .inl (k 0, 16, .inl (fun _ => 0))), ((ad 21), .inl (k 0, 16, .inl (fun _ => 0))), ((ad 22), .inl (k 0, 16, .inl (fun _ => 0))), ((ad 23), .inl (k 0, 16, .inl (fun _ => 0))), ((ad 24), .inl (k 0, 6, .inl (fun _ => 0))), ((ad 25), .inl (k 0, 6, .inl (fun _ => 0))), ((ad 26), .inl (k 0, 6, .inl (fun _ => 0))), ((ad 27), .inl (k 0, 6, .inl (fun _ => 0))), ((ad 28), .inl (k 0, 96, .inl wk))]) sz) := by
  refine gx_metE (Qc := fun A => gx_Qi D (fun (r : Int32) (u : Unit) => r = 1) (fun (u : Unit) => ([] : va_W)) A) (y := yX6_image) (cc := cX6_image) (n := 1) (ret := (some .int)) (av := [.ref (ad 0)]) (by decide) (Nat.le_of_ble_eq_true rfl) ?_
  intro p e s m below meth c A ls C hA hP hD hK hS hl
  obtain ⟨hx, hb, hr, hml, hown, hT, hlk, hin⟩ := id C
  have hown : s.vm.findClass RX6 = some m.cls := hown
  have hl : lv_has ls 1 [(0, .ref (ad 0))] := hl
  refine lv_aload_n hx hb dX6_image_0 rfl (lv_at hl 0 rfl) ?_
  refine va_get (D := D) (ci := 4) (v := .ref (ad 2)) (C := RX6) (T := TX6) (N := 10) hx hb hT iw_TX6 hown hK.1 hP 0 rfl rfl 1 (by decide) (hT _ wd_272) (fun _ h9 => h9) rfl dX6_image_1 ?_
  refine lv_aload_n hx hb dX6_image_4 rfl (lv_at hl 0 rfl) ?_
  refine va_get (D := D) (ci := 4) (v := .ref (ad 1)) (C := RX6) (T := TX6) (N := 10) hx hb hT iw_TX6 hown hK.1 hP 0 rfl rfl 0 (by decide) (hT _ wd_271) (fun _ h9 => h9) rfl dX6_image_5 ?_
  refine gx_ev (wc := ([((ad 2), .inr (0, [.ref (ad 20), .ref (ad 21), .ref (ad 22), .ref (ad 23), .ref (ad 24), .ref (ad 25), .ref (ad 26), .ref (ad 27), .ref (ad 28), .int 0, .int 0, .int 0, .int 0, .int 1, .int 0, .int 0, .int 0])), ((ad 1), .inr (0, [.ref (ad 10), .ref (ad 11), .ref (ad 12), .ref (ad 13), .ref (ad 14), .ref (ad 15), .ref (ad 16), .ref (ad 17), .ref (ad 18), .int 0, .int 0, .int 0, .int 0, .int 1, .int 0, .int 0, .int 0])), ((ad 20), .inl (k 0, 16, .inl (fun _ => 0))), ((ad 21), .inl (k 0, 16, .inl (fun _ => 0))), ((ad 22), .inl (k 0, 16, .inl (fun _ => 0))), ((ad 23), .inl (k 0, 16, .inl (fun _ => 0))), ((ad 24), .inl (k 0, 6, .inl (fun _ => 0))), ((ad 25), .inl (k 0, 6, .inl (fun _ => 0))), ((ad 26), .inl (k 0, 6, .inl (fun _ => 0))), ((ad 27), .inl (k 0, 6, .inl (fun _ => 0))), ((ad 28), .inl (k 0, 96, .inl wk)), ((ad 10), .inl (k 0, 16, .inl (fun _ => 0))), ((ad 11), .inl (k 0, 16, .inl (fun _ => 0))), ((ad 12), .inl (k 0, 16, .inl (fun _ => 0))), ((ad 13), .inl (k 0, 16, .inl (fun _ => 0))), ((ad 14), .inl (k 0, 6, .inl (fun _ => 0))), ((ad 15), .inl (k 0, 6, .inl (fun _ => 0))), ((ad 16), .inl (k 0, 6, .inl (fun _ => 0))), ((ad 17), .inl (k 0, 6, .inl (fun _ => 0))), ((ad 18), .inl (k 0, 96, .inl wn))] : va_W)) (wr := [((ad 0), .inr (4, [.ref (ad 1), .ref (ad 2), .ref (ad 3), .ref (ad 4), .ref (ad 5), .ref (ad 6), .ref (ad 7), .ref (ad 8), .ref (ad 9), .int 0]))]) (isC := [2, 1, 12, 13, 14, 15, 16, 17, 18, 19, 20, 3, 4, 5, 6, 7, 8, 9, 10, 11]) (isR := [0]) hP hD hS hA rfl rfl (by decide) (by decide) (gx_runV (na := 1) (As := [.ref (ad 1)]) (rest := []) (ci := 0) C hl.1 hK (gx_subP (wc := ([((ad 2), .inr (0, [.ref (ad 20), .ref (ad 21), .ref (ad 22), .ref (ad 23), .ref (ad 24), .ref (ad 25), .ref (ad 26), .ref (ad 27), .ref (ad 28), .int 0, .int 0, .int 0, .int 0, .int 1, .int 0, .int 0, .int 0])), ((ad 1), .inr (0, [.ref (ad 10), .ref (ad 11), .ref (ad 12), .ref (ad 13), .ref (ad 14), .ref (ad 15), .ref (ad 16), .ref (ad 17), .ref (ad 18), .int 0, .int 0, .int 0, .int 0, .int 1, .int 0, .int 0, .int 0])), ((ad 20), .inl (k 0, 16, .inl (fun _ => 0))), ((ad 21), .inl (k 0, 16, .inl (fun _ => 0))), ((ad 22), .inl (k 0, 16, .inl (fun _ => 0))), ((ad 23), .inl (k 0, 16, .inl (fun _ => 0))), ((ad 24), .inl (k 0, 6, .inl (fun _ => 0))), ((ad 25), .inl (k 0, 6, .inl (fun _ => 0))), ((ad 26), .inl (k 0, 6, .inl (fun _ => 0))), ((ad 27), .inl (k 0, 6, .inl (fun _ => 0))), ((ad 28), .inl (k 0, 96, .inl wk)), ((ad 10), .inl (k 0, 16, .inl (fun _ => 0))), ((ad 11), .inl (k 0, 16, .inl (fun _ => 0))), ((ad 12), .inl (k 0, 16, .inl (fun _ => 0))), ((ad 13), .inl (k 0, 16, .inl (fun _ => 0))), ((ad 14), .inl (k 0, 6, .inl (fun _ => 0))), ((ad 15), .inl (k 0, 6, .inl (fun _ => 0))), ((ad 16), .inl (k 0, 6, .inl (fun _ => 0))), ((ad 17), .inl (k 0, 6, .inl (fun _ => 0))), ((ad 18), .inl (k 0, 96, .inl wn))] : va_W)) hP [2, 1, 12, 13, 14, 15, 16, 17, 18, 19, 20, 3, 4, 5, 6, 7, 8, 9, 10, 11] rfl) ((hD.sub (ws' := ([((ad 2), .inr (0, [.ref (ad 20), .ref (ad 21), .ref (ad 22), .ref (ad 23), .ref (ad 24), .ref (ad 25), .ref (ad 26), .ref (ad 27), .ref (ad 28), .int 0, .int 0, .int 0, .int 0, .int 1, .int 0, .int 0, .int 0])), ((ad 1), .inr (0, [.ref (ad 10), .ref (ad 11), .ref (ad 12), .ref (ad 13), .ref (ad 14), .ref (ad 15), .ref (ad 16), .ref (ad 17), .ref (ad 18), .int 0, .int 0, .int 0, .int 0, .int 1, .int 0, .int 0, .int 0])), ((ad 20), .inl (k 0, 16, .inl (fun _ => 0))), ((ad 21), .inl (k 0, 16, .inl (fun _ => 0))), ((ad 22), .inl (k 0, 16, .inl (fun _ => 0))), ((ad 23), .inl (k 0, 16, .inl (fun _ => 0))), ((ad 24), .inl (k 0, 6, .inl (fun _ => 0))), ((ad 25), .inl (k 0, 6, .inl (fun _ => 0))), ((ad 26), .inl (k 0, 6, .inl (fun _ => 0))), ((ad 27), .inl (k 0, 6, .inl (fun _ => 0))), ((ad 28), .inl (k 0, 96, .inl wk)), ((ad 10), .inl (k 0, 16, .inl (fun _ => 0))), ((ad 11), .inl (k 0, 16, .inl (fun _ => 0))), ((ad 12), .inl (k 0, 16, .inl (fun _ => 0))), ((ad 13), .inl (k 0, 16, .inl (fun _ => 0))), ((ad 14), .inl (k 0, 6, .inl (fun _ => 0))), ((ad 15), .inl (k 0, 6, .inl (fun _ => 0))), ((ad 16), .inl (k 0, 6, .inl (fun _ => 0))), ((ad 17), .inl (k 0, 6, .inl (fun _ => 0))), ((ad 18), .inl (k 0, 96, .inl wn))] : va_W)) [2, 1, 12, 13, 14, 15, 16, 17, 18, 19, 20, 3, 4, 5, 6, 7, 8, 9, 10, 11] (by decide) rfl).weaken (fun _ _ _ _ => trivial)) (k_become l D k (ad 2) (ad 20) (ad 21) (ad 22) (ad 23) (ad 24) (ad 25) (ad 26) (ad 27) (ad 28) (ad 1) (ad 10) (ad 11) (ad 12) (ad 13) (ad 14) (ad 15) (ad 16) (ad 17) (ad 18) wk wn _) gV_RX6_159 (by decide +kernel) rfl rfl ⟨Nat.le_of_ble_eq_true rfl, Nat.le_of_ble_eq_true rfl⟩ rfl rfl rfl rfl (Nat.le_of_ble_eq_true rfl) dX6_image_8 ⟨Nat.le_of_ble_eq_true rfl, Nat.le_of_ble_eq_true rfl⟩) (fun u_1 H locs h_2 hP hD hS => ?_)
  have hP : va_P D gx_cl [((ad 0), .inr (4, [.ref (ad 1), .ref (ad 2), .ref (ad 3), .ref (ad 4), .ref (ad 5), .ref (ad 6), .ref (ad 7), .ref (ad 8), .ref (ad 9), .int 0])), ((ad 2), .inr (0, [.ref (ad 20), .ref (ad 21), .ref (ad 22), .ref (ad 23), .ref (ad 24), .ref (ad 25), .ref (ad 26), .ref (ad 27), .ref (ad 28), .int 0, .int 0, .int 0, .int 0, .int 1, .int 0, .int 0, .int 0]))] H := hP
  have hD : va_D A [((ad 0), .inr (4, [.ref (ad 1), .ref (ad 2), .ref (ad 3), .ref (ad 4), .ref (ad 5), .ref (ad 6), .ref (ad 7), .ref (ad 8), .ref (ad 9), .int 0])), ((ad 2), .inr (0, [.ref (ad 20), .ref (ad 21), .ref (ad 22), .ref (ad 23), .ref (ad 24), .ref (ad 25), .ref (ad 26), .ref (ad 27), .ref (ad 28), .int 0, .int 0, .int 0, .int 0, .int 1, .int 0, .int 0, .int 0]))] := hD
  refine lv_aload_n hx hb dX6_image_11 rfl (lv_at hl 0 rfl) ?_
  refine lv_iconst (v := 1) hx hb dX6_image_12 (by decide) ?_
  refine va_put (D := D) (ci := 4) (v := .int 1) (ty := .boolean) (C := RX6) (T := TX6) (N := 10) hx hb hT iw_TX6 tyX6 tyX6_ok nmX6 hown hK.1 hP hD hS 0 rfl rfl 9 (by decide) (hT _ wd_280) (fun _ h9 => h9) rfl (by decide +kernel) rfl rfl (Nat.le_of_ble_eq_true rfl) dX6_image_13 (fun H locs hP hD hS => ?_)
  have hP : va_P D gx_cl [((ad 0), .inr (4, [.ref (ad 1), .ref (ad 2), .ref (ad 3), .ref (ad 4), .ref (ad 5), .ref (ad 6), .ref (ad 7), .ref (ad 8), .ref (ad 9), .int 1])), ((ad 2), .inr (0, [.ref (ad 20), .ref (ad 21), .ref (ad 22), .ref (ad 23), .ref (ad 24), .ref (ad 25), .ref (ad 26), .ref (ad 27), .ref (ad 28), .int 0, .int 0, .int 0, .int 0, .int 1, .int 0, .int 0, .int 0]))] H := hP
  have hD : va_D A [((ad 0), .inr (4, [.ref (ad 1), .ref (ad 2), .ref (ad 3), .ref (ad 4), .ref (ad 5), .ref (ad 6), .ref (ad 7), .ref (ad 8), .ref (ad 9), .int 1])), ((ad 2), .inr (0, [.ref (ad 20), .ref (ad 21), .ref (ad 22), .ref (ad 23), .ref (ad 24), .ref (ad 25), .ref (ad 26), .ref (ad 27), .ref (ad 28), .int 0, .int 0, .int 0, .int 0, .int 1, .int 0, .int 0, .int 0]))] := hD
  refine lv_iconst (v := 1) hx hb dX6_image_16 (by decide) ?_
  exact gx_retI C (u := ()) gx_nil gx_noneD hS (rfl) dX6_image_17
set_option maxHeartbeats 4000000 in
set_option maxRecDepth 100000 in
theorem x_back (l : Launch) (D : va_G) (k : Nat → ClassId) (ad : Nat → Nat) (sz : Nat) : Met l yX6_back (.code yX6_back cX6_back 1 (some .int) :: gx_T) ({ frames := 2, cells := 0, slots := 0, locals := 43 }) (gx_Pre D k [.ref (ad 0)] ([((ad 0), .inr (4, [.ref (ad 1), .ref (ad 2), .ref (ad 3), .ref (ad 4), .ref (ad 5), .ref (ad 6), .ref (ad 7), .ref (ad 8), .ref (ad 9), .int 0])), ((ad 9), .inl (k 0, 5, .inl (fun _ => 0)))]) sz) (gx_Qi D (fun (r : Int32) (u : Unit) => r = -5) (fun (u : Unit) => ([] : va_W)) (va_A ([((ad 0), .inr (4, [.ref (ad 1), .ref (ad 2), .ref (ad 3), .ref (ad 4), .ref (ad 5), .ref (ad 6), .ref (ad 7), .ref (ad 8), .ref (ad 9), .int 0])), ((ad 9), .inl (k 0, 5, .inl (fun _ => 0)))]) sz)) 0 0 (va_A ([((ad 0), .inr (4, [.ref (ad 1), .ref (ad 2), .ref (ad 3), .ref (ad 4), .ref (ad 5), .ref (ad 6), .ref (ad 7), .ref (ad 8), .ref (ad 9), .int 0])), ((ad 9), .inl (k 0, 5, .inl (fun _ => 0)))]) sz) := by
  refine gx_metE (Qc := fun A => gx_Qi D (fun (r : Int32) (u : Unit) => r = -5) (fun (u : Unit) => ([] : va_W)) A) (y := yX6_back) (cc := cX6_back) (n := 1) (ret := (some .int)) (av := [.ref (ad 0)]) (by decide) (Nat.le_of_ble_eq_true rfl) ?_
  intro p e s m below meth c A ls C hA hP hD hK hS hl
  obtain ⟨hx, hb, hr, hml, hown, hT, hlk, hin⟩ := id C
  have hown : s.vm.findClass RX6 = some m.cls := hown
  have hl : lv_has ls 1 [(0, .ref (ad 0))] := hl
  refine lv_aload_n hx hb dX6_back_0 rfl (lv_at hl 0 rfl) ?_
  refine va_get (D := D) (ci := 4) (v := .int 0) (C := RX6) (T := TX6) (N := 10) hx hb hT iw_TX6 hown hK.1 hP 0 rfl rfl 9 (by decide) (hT _ wd_280) (fun _ h9 => h9) rfl dX6_back_1 ?_
  refine lv_if_ne (tgt := 14) hx hb dX6_back_4 (by decide) (fun c_1 => absurd (by decide) c_1) (fun c_1 => ?_)
  refine lv_aload_n hx hb dX6_back_7 rfl (lv_at hl 0 rfl) ?_
  refine lv_bipush (v := (-5)) hx hb dX6_back_8 (by decide) ?_
  refine gx_ei (wc := ([((ad 0), .inr (4, [.ref (ad 1), .ref (ad 2), .ref (ad 3), .ref (ad 4), .ref (ad 5), .ref (ad 6), .ref (ad 7), .ref (ad 8), .ref (ad 9), .int 0])), ((ad 9), .inl (k 0, 5, .inl (fun _ => 0)))] : va_W)) (wr := []) (isC := [0, 1]) (isR := []) hP hD hS hA rfl rfl (by decide) (by decide) (gx_runV (na := 1) (As := [.int (-5)]) (rest := []) (ci := 4) C hl.1 hK (gx_subP (wc := ([((ad 0), .inr (4, [.ref (ad 1), .ref (ad 2), .ref (ad 3), .ref (ad 4), .ref (ad 5), .ref (ad 6), .ref (ad 7), .ref (ad 8), .ref (ad 9), .int 0])), ((ad 9), .inl (k 0, 5, .inl (fun _ => 0)))] : va_W)) hP [0, 1] rfl) ((hD.sub (ws' := ([((ad 0), .inr (4, [.ref (ad 1), .ref (ad 2), .ref (ad 3), .ref (ad 4), .ref (ad 5), .ref (ad 6), .ref (ad 7), .ref (ad 8), .ref (ad 9), .int 0])), ((ad 9), .inl (k 0, 5, .inl (fun _ => 0)))] : va_W)) [0, 1] (by decide) rfl).weaken (fun _ _ _ _ => trivial)) (k_refuse5 l D k ad _) gV_RX6_61 (by decide +kernel) rfl rfl ⟨Nat.le_of_ble_eq_true rfl, Nat.le_of_ble_eq_true rfl⟩ rfl rfl rfl rfl (Nat.le_of_ble_eq_true rfl) dX6_back_10 ⟨Nat.le_of_ble_eq_true rfl, Nat.le_of_ble_eq_true rfl⟩) (fun r_4 u_2 H locs h_3 hP hD hS => ?_)
  have h_3 : r_4 = -5 := h_3
  have hP : va_P D gx_cl [] H := hP
  have hD : va_D A [] := hD
  have eh_3 := h_3
  subst eh_3
  exact gx_retI C (u := ()) gx_nil gx_noneD hS (rfl) dX6_back_13
set_option maxHeartbeats 4000000 in
set_option maxRecDepth 100000 in
theorem k_filled (l : Launch) (D : va_G) (k : Nat → ClassId) (ad : Nat → Nat) (fs : Nat → Option Nat) (hfs : ∀ i, i < 8 → fs i = some (ad (50 + i))) (sz : Nat) : Met l yX6_filledShelves (.code yX6_filledShelves cX6_filledShelves 3 (some .int) :: gx_T) ({ frames := 1, cells := 0, slots := 0, locals := 20 }) (gx_Pre D k [.ref (ad 0)] ([((ad 0), .inr (4, [.ref (ad 1), .ref (ad 2), .ref (ad 3), .ref (ad 4), .ref (ad 5), .ref (ad 6), .ref (ad 7), .ref (ad 8), .ref (ad 9), .int 0])), ((ad 5), .inl (k 2, 8, .inr (.inr (.inr (.inr fs))))), ((ad 50), .inr (1, [.ref (ad 60), .int 0, .int 0, .int (-1)])), ((ad 51), .inr (1, [.ref (ad 61), .int 0, .int 0, .int (-1)])), ((ad 52), .inr (1, [.ref (ad 62), .int 0, .int 0, .int (-1)])), ((ad 53), .inr (1, [.ref (ad 63), .int 0, .int 0, .int (-1)])), ((ad 54), .inr (1, [.ref (ad 64), .int 0, .int 0, .int (-1)])), ((ad 55), .inr (1, [.ref (ad 65), .int 0, .int 0, .int (-1)])), ((ad 56), .inr (1, [.ref (ad 66), .int 0, .int 0, .int (-1)])), ((ad 57), .inr (1, [.ref (ad 67), .int 0, .int 0, .int (-1)]))]) sz) (gx_Pi (fun r => r = 0)) 0 0 gx_No := by
  refine gx_metP (y := yX6_filledShelves) (cc := cX6_filledShelves) (n := 3) (ret := (some .int)) (av := [.ref (ad 0)]) (by decide) (Nat.le_of_ble_eq_true rfl) ?_
  intro p e s m below meth c ls C hP hD hK hS hl
  obtain ⟨hx, hb, hr, hml, hown, hT, hlk, hin⟩ := id C
  have hown : s.vm.findClass RX6 = some m.cls := hown
  have hl : lv_has ls 3 [(0, .ref (ad 0))] := hl
  refine lv_iconst (v := 0) hx hb dX6_filledShelves_0 (by decide) ?_
  refine lv_istore_n (lv' := [(1, .int 0), (0, .ref (ad 0))]) hx hb dX6_filledShelves_1 rfl hl (by decide) rfl (fun ls hl => ?_)
  refine lv_iconst (v := 0) hx hb dX6_filledShelves_2 (by decide) ?_
  refine lv_istore_n (lv' := [(2, .int 0), (1, .int 0), (0, .ref (ad 0))]) hx hb dX6_filledShelves_3 rfl hl (by decide) rfl (fun ls hl => ?_)
  refine lv_iload_n hx hb dX6_filledShelves_4 rfl (lv_at hl 0 rfl) ?_
  refine lv_bipush (v := 8) hx hb dX6_filledShelves_5 (by decide) ?_
  refine lv_icmp_ge (tgt := 31) hx hb dX6_filledShelves_7 (by decide) (fun c_1 => absurd c_1 (by decide)) (fun c_1 => ?_)
  refine lv_aload_n hx hb dX6_filledShelves_10 rfl (lv_at hl 2 rfl) ?_
  refine va_get (D := D) (ci := 4) (v := .ref (ad 5)) (C := RX6) (T := TX6) (N := 10) hx hb hT iw_TX6 hown hK.1 hP 0 rfl rfl 4 (by decide) (hT _ wd_275) (fun _ h9 => h9) rfl dX6_filledShelves_11 ?_
  refine lv_iload_n hx hb dX6_filledShelves_14 rfl (lv_at hl 0 rfl) ?_
  refine va_aldq hx hb hK.1 hP 1 2 rfl rfl (gx_vin rfl) dX6_filledShelves_15 ?_
  refine gx_csr (v := .ref (ad 50)) (congrArg va_rf (hfs 0 (by decide))) ?_
  refine gx_pi hP hS (gx_runV (na := 0) (As := []) (rest := []) (ci := 1) C hl.1 hK (gx_subP (wc := ([((ad 50), .inr (1, [.ref (ad 60), .int 0, .int 0, .int (-1)]))] : va_W)) hP [2] rfl) ((hD.sub (ws' := ([((ad 50), .inr (1, [.ref (ad 60), .int 0, .int 0, .int (-1)]))] : va_W)) [2] (by decide) rfl).weaken (fun _ _ _ _ => trivial)) (k_isEmpty l D k (ad 50) (ad 60) 0 0 _) gV_RX6_312 (by decide +kernel) rfl rfl ⟨Nat.le_of_ble_eq_true rfl, Nat.le_of_ble_eq_true rfl⟩ rfl rfl rfl rfl (Nat.le_of_ble_eq_true rfl) dX6_filledShelves_16 ⟨Nat.le_of_ble_eq_true rfl, Nat.le_of_ble_eq_true rfl⟩) (fun r_3 H locs c_2 hP hS => ?_)
  have c_2 : r_3 = 1 := c_2
  subst c_2
  refine lv_if_ne (tgt := 25) hx hb dX6_filledShelves_19 (by decide) (fun c_4 => ?_) (fun c_4 => absurd c_4 (by decide))
  refine lv_iinc (v := 1) (lv' := [(2, .int 1), (1, .int 0), (0, .ref (ad 0))]) hx hb dX6_filledShelves_25 hl (k := 0) rfl (by decide) (by decide) rfl (fun ls hl => ?_)
  refine lv_goto (tgt := 4) hx hb dX6_filledShelves_28 (by decide) ?_
  refine lv_iload_n hx hb dX6_filledShelves_4 rfl (lv_at hl 0 rfl) ?_
  refine lv_bipush (v := 8) hx hb dX6_filledShelves_5 (by decide) ?_
  refine lv_icmp_ge (tgt := 31) hx hb dX6_filledShelves_7 (by decide) (fun c_5 => absurd c_5 (by decide)) (fun c_5 => ?_)
  refine lv_aload_n hx hb dX6_filledShelves_10 rfl (lv_at hl 2 rfl) ?_
  refine va_get (D := D) (ci := 4) (v := .ref (ad 5)) (C := RX6) (T := TX6) (N := 10) hx hb hT iw_TX6 hown hK.1 hP 0 rfl rfl 4 (by decide) (hT _ wd_275) (fun _ h9 => h9) rfl dX6_filledShelves_11 ?_
  refine lv_iload_n hx hb dX6_filledShelves_14 rfl (lv_at hl 0 rfl) ?_
  refine va_aldq hx hb hK.1 hP 1 2 rfl rfl (gx_vin rfl) dX6_filledShelves_15 ?_
  refine gx_csr (v := .ref (ad 51)) (congrArg va_rf (hfs 1 (by decide))) ?_
  refine gx_pi hP hS (gx_runV (na := 0) (As := []) (rest := []) (ci := 1) C hl.1 hK (gx_subP (wc := ([((ad 51), .inr (1, [.ref (ad 61), .int 0, .int 0, .int (-1)]))] : va_W)) hP [3] rfl) ((hD.sub (ws' := ([((ad 51), .inr (1, [.ref (ad 61), .int 0, .int 0, .int (-1)]))] : va_W)) [3] (by decide) rfl).weaken (fun _ _ _ _ => trivial)) (k_isEmpty l D k (ad 51) (ad 61) 0 0 _) gV_RX6_312 (by decide +kernel) rfl rfl ⟨Nat.le_of_ble_eq_true rfl, Nat.le_of_ble_eq_true rfl⟩ rfl rfl rfl rfl (Nat.le_of_ble_eq_true rfl) dX6_filledShelves_16 ⟨Nat.le_of_ble_eq_true rfl, Nat.le_of_ble_eq_true rfl⟩) (fun r_7 H locs c_6 hP hS => ?_)
  have c_6 : r_7 = 1 := c_6
  subst c_6
  refine lv_if_ne (tgt := 25) hx hb dX6_filledShelves_19 (by decide) (fun c_8 => ?_) (fun c_8 => absurd c_8 (by decide))
  refine lv_iinc (v := 2) (lv' := [(2, .int 2), (1, .int 0), (0, .ref (ad 0))]) hx hb dX6_filledShelves_25 hl (k := 0) rfl (by decide) (by decide) rfl (fun ls hl => ?_)
  refine lv_goto (tgt := 4) hx hb dX6_filledShelves_28 (by decide) ?_
  refine lv_iload_n hx hb dX6_filledShelves_4 rfl (lv_at hl 0 rfl) ?_
  refine lv_bipush (v := 8) hx hb dX6_filledShelves_5 (by decide) ?_
  refine lv_icmp_ge (tgt := 31) hx hb dX6_filledShelves_7 (by decide) (fun c_9 => absurd c_9 (by decide)) (fun c_9 => ?_)
  refine lv_aload_n hx hb dX6_filledShelves_10 rfl (lv_at hl 2 rfl) ?_
  refine va_get (D := D) (ci := 4) (v := .ref (ad 5)) (C := RX6) (T := TX6) (N := 10) hx hb hT iw_TX6 hown hK.1 hP 0 rfl rfl 4 (by decide) (hT _ wd_275) (fun _ h9 => h9) rfl dX6_filledShelves_11 ?_
  refine lv_iload_n hx hb dX6_filledShelves_14 rfl (lv_at hl 0 rfl) ?_
  refine va_aldq hx hb hK.1 hP 1 2 rfl rfl (gx_vin rfl) dX6_filledShelves_15 ?_
  refine gx_csr (v := .ref (ad 52)) (congrArg va_rf (hfs 2 (by decide))) ?_
  refine gx_pi hP hS (gx_runV (na := 0) (As := []) (rest := []) (ci := 1) C hl.1 hK (gx_subP (wc := ([((ad 52), .inr (1, [.ref (ad 62), .int 0, .int 0, .int (-1)]))] : va_W)) hP [4] rfl) ((hD.sub (ws' := ([((ad 52), .inr (1, [.ref (ad 62), .int 0, .int 0, .int (-1)]))] : va_W)) [4] (by decide) rfl).weaken (fun _ _ _ _ => trivial)) (k_isEmpty l D k (ad 52) (ad 62) 0 0 _) gV_RX6_312 (by decide +kernel) rfl rfl ⟨Nat.le_of_ble_eq_true rfl, Nat.le_of_ble_eq_true rfl⟩ rfl rfl rfl rfl (Nat.le_of_ble_eq_true rfl) dX6_filledShelves_16 ⟨Nat.le_of_ble_eq_true rfl, Nat.le_of_ble_eq_true rfl⟩) (fun r_11 H locs c_10 hP hS => ?_)
  have c_10 : r_11 = 1 := c_10
  subst c_10
  refine lv_if_ne (tgt := 25) hx hb dX6_filledShelves_19 (by decide) (fun c_12 => ?_) (fun c_12 => absurd c_12 (by decide))
  refine lv_iinc (v := 3) (lv' := [(2, .int 3), (1, .int 0), (0, .ref (ad 0))]) hx hb dX6_filledShelves_25 hl (k := 0) rfl (by decide) (by decide) rfl (fun ls hl => ?_)
  refine lv_goto (tgt := 4) hx hb dX6_filledShelves_28 (by decide) ?_
  refine lv_iload_n hx hb dX6_filledShelves_4 rfl (lv_at hl 0 rfl) ?_
  refine lv_bipush (v := 8) hx hb dX6_filledShelves_5 (by decide) ?_
  refine lv_icmp_ge (tgt := 31) hx hb dX6_filledShelves_7 (by decide) (fun c_13 => absurd c_13 (by decide)) (fun c_13 => ?_)
  refine lv_aload_n hx hb dX6_filledShelves_10 rfl (lv_at hl 2 rfl) ?_
  refine va_get (D := D) (ci := 4) (v := .ref (ad 5)) (C := RX6) (T := TX6) (N := 10) hx hb hT iw_TX6 hown hK.1 hP 0 rfl rfl 4 (by decide) (hT _ wd_275) (fun _ h9 => h9) rfl dX6_filledShelves_11 ?_
  refine lv_iload_n hx hb dX6_filledShelves_14 rfl (lv_at hl 0 rfl) ?_
  refine va_aldq hx hb hK.1 hP 1 2 rfl rfl (gx_vin rfl) dX6_filledShelves_15 ?_
  refine gx_csr (v := .ref (ad 53)) (congrArg va_rf (hfs 3 (by decide))) ?_
  refine gx_pi hP hS (gx_runV (na := 0) (As := []) (rest := []) (ci := 1) C hl.1 hK (gx_subP (wc := ([((ad 53), .inr (1, [.ref (ad 63), .int 0, .int 0, .int (-1)]))] : va_W)) hP [5] rfl) ((hD.sub (ws' := ([((ad 53), .inr (1, [.ref (ad 63), .int 0, .int 0, .int (-1)]))] : va_W)) [5] (by decide) rfl).weaken (fun _ _ _ _ => trivial)) (k_isEmpty l D k (ad 53) (ad 63) 0 0 _) gV_RX6_312 (by decide +kernel) rfl rfl ⟨Nat.le_of_ble_eq_true rfl, Nat.le_of_ble_eq_true rfl⟩ rfl rfl rfl rfl (Nat.le_of_ble_eq_true rfl) dX6_filledShelves_16 ⟨Nat.le_of_ble_eq_true rfl, Nat.le_of_ble_eq_true rfl⟩) (fun r_15 H locs c_14 hP hS => ?_)
  have c_14 : r_15 = 1 := c_14
  subst c_14
  refine lv_if_ne (tgt := 25) hx hb dX6_filledShelves_19 (by decide) (fun c_16 => ?_) (fun c_16 => absurd c_16 (by decide))
  refine lv_iinc (v := 4) (lv' := [(2, .int 4), (1, .int 0), (0, .ref (ad 0))]) hx hb dX6_filledShelves_25 hl (k := 0) rfl (by decide) (by decide) rfl (fun ls hl => ?_)
  refine lv_goto (tgt := 4) hx hb dX6_filledShelves_28 (by decide) ?_
  refine lv_iload_n hx hb dX6_filledShelves_4 rfl (lv_at hl 0 rfl) ?_
  refine lv_bipush (v := 8) hx hb dX6_filledShelves_5 (by decide) ?_
  refine lv_icmp_ge (tgt := 31) hx hb dX6_filledShelves_7 (by decide) (fun c_17 => absurd c_17 (by decide)) (fun c_17 => ?_)
  refine lv_aload_n hx hb dX6_filledShelves_10 rfl (lv_at hl 2 rfl) ?_
  refine va_get (D := D) (ci := 4) (v := .ref (ad 5)) (C := RX6) (T := TX6) (N := 10) hx hb hT iw_TX6 hown hK.1 hP 0 rfl rfl 4 (by decide) (hT _ wd_275) (fun _ h9 => h9) rfl dX6_filledShelves_11 ?_
  refine lv_iload_n hx hb dX6_filledShelves_14 rfl (lv_at hl 0 rfl) ?_
  refine va_aldq hx hb hK.1 hP 1 2 rfl rfl (gx_vin rfl) dX6_filledShelves_15 ?_
  refine gx_csr (v := .ref (ad 54)) (congrArg va_rf (hfs 4 (by decide))) ?_
  refine gx_pi hP hS (gx_runV (na := 0) (As := []) (rest := []) (ci := 1) C hl.1 hK (gx_subP (wc := ([((ad 54), .inr (1, [.ref (ad 64), .int 0, .int 0, .int (-1)]))] : va_W)) hP [6] rfl) ((hD.sub (ws' := ([((ad 54), .inr (1, [.ref (ad 64), .int 0, .int 0, .int (-1)]))] : va_W)) [6] (by decide) rfl).weaken (fun _ _ _ _ => trivial)) (k_isEmpty l D k (ad 54) (ad 64) 0 0 _) gV_RX6_312 (by decide +kernel) rfl rfl ⟨Nat.le_of_ble_eq_true rfl, Nat.le_of_ble_eq_true rfl⟩ rfl rfl rfl rfl (Nat.le_of_ble_eq_true rfl) dX6_filledShelves_16 ⟨Nat.le_of_ble_eq_true rfl, Nat.le_of_ble_eq_true rfl⟩) (fun r_19 H locs c_18 hP hS => ?_)
  have c_18 : r_19 = 1 := c_18
  subst c_18
  refine lv_if_ne (tgt := 25) hx hb dX6_filledShelves_19 (by decide) (fun c_20 => ?_) (fun c_20 => absurd c_20 (by decide))
  refine lv_iinc (v := 5) (lv' := [(2, .int 5), (1, .int 0), (0, .ref (ad 0))]) hx hb dX6_filledShelves_25 hl (k := 0) rfl (by decide) (by decide) rfl (fun ls hl => ?_)
  refine lv_goto (tgt := 4) hx hb dX6_filledShelves_28 (by decide) ?_
  refine lv_iload_n hx hb dX6_filledShelves_4 rfl (lv_at hl 0 rfl) ?_
  refine lv_bipush (v := 8) hx hb dX6_filledShelves_5 (by decide) ?_
  refine lv_icmp_ge (tgt := 31) hx hb dX6_filledShelves_7 (by decide) (fun c_21 => absurd c_21 (by decide)) (fun c_21 => ?_)
  refine lv_aload_n hx hb dX6_filledShelves_10 rfl (lv_at hl 2 rfl) ?_
  refine va_get (D := D) (ci := 4) (v := .ref (ad 5)) (C := RX6) (T := TX6) (N := 10) hx hb hT iw_TX6 hown hK.1 hP 0 rfl rfl 4 (by decide) (hT _ wd_275) (fun _ h9 => h9) rfl dX6_filledShelves_11 ?_
  refine lv_iload_n hx hb dX6_filledShelves_14 rfl (lv_at hl 0 rfl) ?_
  refine va_aldq hx hb hK.1 hP 1 2 rfl rfl (gx_vin rfl) dX6_filledShelves_15 ?_
  refine gx_csr (v := .ref (ad 55)) (congrArg va_rf (hfs 5 (by decide))) ?_
  refine gx_pi hP hS (gx_runV (na := 0) (As := []) (rest := []) (ci := 1) C hl.1 hK (gx_subP (wc := ([((ad 55), .inr (1, [.ref (ad 65), .int 0, .int 0, .int (-1)]))] : va_W)) hP [7] rfl) ((hD.sub (ws' := ([((ad 55), .inr (1, [.ref (ad 65), .int 0, .int 0, .int (-1)]))] : va_W)) [7] (by decide) rfl).weaken (fun _ _ _ _ => trivial)) (k_isEmpty l D k (ad 55) (ad 65) 0 0 _) gV_RX6_312 (by decide +kernel) rfl rfl ⟨Nat.le_of_ble_eq_true rfl, Nat.le_of_ble_eq_true rfl⟩ rfl rfl rfl rfl (Nat.le_of_ble_eq_true rfl) dX6_filledShelves_16 ⟨Nat.le_of_ble_eq_true rfl, Nat.le_of_ble_eq_true rfl⟩) (fun r_23 H locs c_22 hP hS => ?_)
  have c_22 : r_23 = 1 := c_22
  subst c_22
  refine lv_if_ne (tgt := 25) hx hb dX6_filledShelves_19 (by decide) (fun c_24 => ?_) (fun c_24 => absurd c_24 (by decide))
  refine lv_iinc (v := 6) (lv' := [(2, .int 6), (1, .int 0), (0, .ref (ad 0))]) hx hb dX6_filledShelves_25 hl (k := 0) rfl (by decide) (by decide) rfl (fun ls hl => ?_)
  refine lv_goto (tgt := 4) hx hb dX6_filledShelves_28 (by decide) ?_
  refine lv_iload_n hx hb dX6_filledShelves_4 rfl (lv_at hl 0 rfl) ?_
  refine lv_bipush (v := 8) hx hb dX6_filledShelves_5 (by decide) ?_
  refine lv_icmp_ge (tgt := 31) hx hb dX6_filledShelves_7 (by decide) (fun c_25 => absurd c_25 (by decide)) (fun c_25 => ?_)
  refine lv_aload_n hx hb dX6_filledShelves_10 rfl (lv_at hl 2 rfl) ?_
  refine va_get (D := D) (ci := 4) (v := .ref (ad 5)) (C := RX6) (T := TX6) (N := 10) hx hb hT iw_TX6 hown hK.1 hP 0 rfl rfl 4 (by decide) (hT _ wd_275) (fun _ h9 => h9) rfl dX6_filledShelves_11 ?_
  refine lv_iload_n hx hb dX6_filledShelves_14 rfl (lv_at hl 0 rfl) ?_
  refine va_aldq hx hb hK.1 hP 1 2 rfl rfl (gx_vin rfl) dX6_filledShelves_15 ?_
  refine gx_csr (v := .ref (ad 56)) (congrArg va_rf (hfs 6 (by decide))) ?_
  refine gx_pi hP hS (gx_runV (na := 0) (As := []) (rest := []) (ci := 1) C hl.1 hK (gx_subP (wc := ([((ad 56), .inr (1, [.ref (ad 66), .int 0, .int 0, .int (-1)]))] : va_W)) hP [8] rfl) ((hD.sub (ws' := ([((ad 56), .inr (1, [.ref (ad 66), .int 0, .int 0, .int (-1)]))] : va_W)) [8] (by decide) rfl).weaken (fun _ _ _ _ => trivial)) (k_isEmpty l D k (ad 56) (ad 66) 0 0 _) gV_RX6_312 (by decide +kernel) rfl rfl ⟨Nat.le_of_ble_eq_true rfl, Nat.le_of_ble_eq_true rfl⟩ rfl rfl rfl rfl (Nat.le_of_ble_eq_true rfl) dX6_filledShelves_16 ⟨Nat.le_of_ble_eq_true rfl, Nat.le_of_ble_eq_true rfl⟩) (fun r_27 H locs c_26 hP hS => ?_)
  have c_26 : r_27 = 1 := c_26
  subst c_26
  refine lv_if_ne (tgt := 25) hx hb dX6_filledShelves_19 (by decide) (fun c_28 => ?_) (fun c_28 => absurd c_28 (by decide))
  refine lv_iinc (v := 7) (lv' := [(2, .int 7), (1, .int 0), (0, .ref (ad 0))]) hx hb dX6_filledShelves_25 hl (k := 0) rfl (by decide) (by decide) rfl (fun ls hl => ?_)
  refine lv_goto (tgt := 4) hx hb dX6_filledShelves_28 (by decide) ?_
  refine lv_iload_n hx hb dX6_filledShelves_4 rfl (lv_at hl 0 rfl) ?_
  refine lv_bipush (v := 8) hx hb dX6_filledShelves_5 (by decide) ?_
  refine lv_icmp_ge (tgt := 31) hx hb dX6_filledShelves_7 (by decide) (fun c_29 => absurd c_29 (by decide)) (fun c_29 => ?_)
  refine lv_aload_n hx hb dX6_filledShelves_10 rfl (lv_at hl 2 rfl) ?_
  refine va_get (D := D) (ci := 4) (v := .ref (ad 5)) (C := RX6) (T := TX6) (N := 10) hx hb hT iw_TX6 hown hK.1 hP 0 rfl rfl 4 (by decide) (hT _ wd_275) (fun _ h9 => h9) rfl dX6_filledShelves_11 ?_
  refine lv_iload_n hx hb dX6_filledShelves_14 rfl (lv_at hl 0 rfl) ?_
  refine va_aldq hx hb hK.1 hP 1 2 rfl rfl (gx_vin rfl) dX6_filledShelves_15 ?_
  refine gx_csr (v := .ref (ad 57)) (congrArg va_rf (hfs 7 (by decide))) ?_
  refine gx_pi hP hS (gx_runV (na := 0) (As := []) (rest := []) (ci := 1) C hl.1 hK (gx_subP (wc := ([((ad 57), .inr (1, [.ref (ad 67), .int 0, .int 0, .int (-1)]))] : va_W)) hP [9] rfl) ((hD.sub (ws' := ([((ad 57), .inr (1, [.ref (ad 67), .int 0, .int 0, .int (-1)]))] : va_W)) [9] (by decide) rfl).weaken (fun _ _ _ _ => trivial)) (k_isEmpty l D k (ad 57) (ad 67) 0 0 _) gV_RX6_312 (by decide +kernel) rfl rfl ⟨Nat.le_of_ble_eq_true rfl, Nat.le_of_ble_eq_true rfl⟩ rfl rfl rfl rfl (Nat.le_of_ble_eq_true rfl) dX6_filledShelves_16 ⟨Nat.le_of_ble_eq_true rfl, Nat.le_of_ble_eq_true rfl⟩) (fun r_31 H locs c_30 hP hS => ?_)
  have c_30 : r_31 = 1 := c_30
  subst c_30
  refine lv_if_ne (tgt := 25) hx hb dX6_filledShelves_19 (by decide) (fun c_32 => ?_) (fun c_32 => absurd c_32 (by decide))
  refine lv_iinc (v := 8) (lv' := [(2, .int 8), (1, .int 0), (0, .ref (ad 0))]) hx hb dX6_filledShelves_25 hl (k := 0) rfl (by decide) (by decide) rfl (fun ls hl => ?_)
  refine lv_goto (tgt := 4) hx hb dX6_filledShelves_28 (by decide) ?_
  refine lv_iload_n hx hb dX6_filledShelves_4 rfl (lv_at hl 0 rfl) ?_
  refine lv_bipush (v := 8) hx hb dX6_filledShelves_5 (by decide) ?_
  refine lv_icmp_ge (tgt := 31) hx hb dX6_filledShelves_7 (by decide) (fun c_33 => ?_) (fun c_33 => absurd (by decide) c_33)
  refine lv_iload_n hx hb dX6_filledShelves_31 rfl (lv_at hl 1 rfl) ?_
  exact gx_retP C hS (rfl) dX6_filledShelves_32
set_option maxHeartbeats 4000000 in
set_option maxRecDepth 100000 in
theorem x_status (l : Launch) (D : va_G) (k : Nat → ClassId) (ad : Nat → Nat) (fs : Nat → Option Nat) (wv : Int32) (hfs : ∀ i, i < 8 → fs i = some (ad (50 + i))) (sz : Nat) : Met l yX6_status (.code yX6_status cX6_status 2 (some .int) :: gx_T) ({ frames := 2, cells := 0, slots := 0, locals := 42 }) (gx_Pre D k [.ref (ad 0), .int wv] ([((ad 0), .inr (4, [.ref (ad 1), .ref (ad 2), .ref (ad 3), .ref (ad 4), .ref (ad 5), .ref (ad 6), .ref (ad 7), .ref (ad 8), .ref (ad 9), .int 0])), ((ad 1), .inr (0, [.ref (ad 10), .ref (ad 11), .ref (ad 12), .ref (ad 13), .ref (ad 14), .ref (ad 15), .ref (ad 16), .ref (ad 17), .ref (ad 18), .int 0, .int 0, .int 0, .int 0, .int 1, .int 0, .int 0, .int 0])), ((ad 4), .inr (2, [.ref (ad 40), .int 0, .int (-1), .int 0, .int 0, .int 0])), ((ad 9), .inl (k 0, 5, .inl (fun _ => 0))), ((ad 5), .inl (k 2, 8, .inr (.inr (.inr (.inr fs))))), ((ad 50), .inr (1, [.ref (ad 60), .int 0, .int 0, .int (-1)])), ((ad 51), .inr (1, [.ref (ad 61), .int 0, .int 0, .int (-1)])), ((ad 52), .inr (1, [.ref (ad 62), .int 0, .int 0, .int (-1)])), ((ad 53), .inr (1, [.ref (ad 63), .int 0, .int 0, .int (-1)])), ((ad 54), .inr (1, [.ref (ad 64), .int 0, .int 0, .int (-1)])), ((ad 55), .inr (1, [.ref (ad 65), .int 0, .int 0, .int (-1)])), ((ad 56), .inr (1, [.ref (ad 66), .int 0, .int 0, .int (-1)])), ((ad 57), .inr (1, [.ref (ad 67), .int 0, .int 0, .int (-1)]))]) sz) (gx_Pi (fun r => r = (gs_status wv))) 0 0 gx_No := by
  refine gx_metP (y := yX6_status) (cc := cX6_status) (n := 2) (ret := (some .int)) (av := [.ref (ad 0), .int wv]) (by decide) (Nat.le_of_ble_eq_true rfl) ?_
  intro p e s m below meth c ls C hP hD hK hS hl
  obtain ⟨hx, hb, hr, hml, hown, hT, hlk, hin⟩ := id C
  have hown : s.vm.findClass RX6 = some m.cls := hown
  have hl : lv_has ls 2 [(0, .ref (ad 0)), (1, .int wv)] := hl
  refine lv_iload_n hx hb dX6_status_0 rfl (lv_at hl 1 rfl) ?_
  by_cases w_1 : wv = 0
  · subst w_1
    refine lv_tableIn (off := 51) (tgt := 52) hx hb dX6_status_1 (by decide) (by decide) (by decide) (by decide) ?_
    refine lv_aload_n hx hb dX6_status_52 rfl (lv_at hl 0 rfl) ?_
    refine va_get (D := D) (ci := 4) (v := .ref (ad 1)) (C := RX6) (T := TX6) (N := 10) hx hb hT iw_TX6 hown hK.1 hP 0 rfl rfl 0 (by decide) (hT _ wd_271) (fun _ h9 => h9) rfl dX6_status_53 ?_
    refine va_get (D := D) (ci := 0) (v := .int 0) (C := RX1) (T := TX1) (N := 17) hx hb hT iw_TX1 hown hK.1 hP 1 rfl rfl 9 (by decide) (hT _ wd_135) (fun _ h9 => h9) rfl dX6_status_56 ?_
    exact gx_retP C hS (by decide) dX6_status_59
  by_cases w_2 : wv = 1
  · subst w_2
    refine lv_tableIn (off := 59) (tgt := 60) hx hb dX6_status_1 (by decide) (by decide) (by decide) (by decide) ?_
    refine lv_aload_n hx hb dX6_status_60 rfl (lv_at hl 0 rfl) ?_
    refine va_get (D := D) (ci := 4) (v := .ref (ad 1)) (C := RX6) (T := TX6) (N := 10) hx hb hT iw_TX6 hown hK.1 hP 0 rfl rfl 0 (by decide) (hT _ wd_271) (fun _ h9 => h9) rfl dX6_status_61 ?_
    refine va_get (D := D) (ci := 0) (v := .int 0) (C := RX1) (T := TX1) (N := 17) hx hb hT iw_TX1 hown hK.1 hP 1 rfl rfl 10 (by decide) (hT _ wd_138) (fun _ h9 => h9) rfl dX6_status_64 ?_
    exact gx_retP C hS (by decide) dX6_status_67
  by_cases w_3 : wv = 2
  · subst w_3
    refine lv_tableIn (off := 67) (tgt := 68) hx hb dX6_status_1 (by decide) (by decide) (by decide) (by decide) ?_
    refine lv_aload_n hx hb dX6_status_68 rfl (lv_at hl 0 rfl) ?_
    refine va_get (D := D) (ci := 4) (v := .ref (ad 1)) (C := RX6) (T := TX6) (N := 10) hx hb hT iw_TX6 hown hK.1 hP 0 rfl rfl 0 (by decide) (hT _ wd_271) (fun _ h9 => h9) rfl dX6_status_69 ?_
    refine va_get (D := D) (ci := 0) (v := .int 0) (C := RX1) (T := TX1) (N := 17) hx hb hT iw_TX1 hown hK.1 hP 1 rfl rfl 11 (by decide) (hT _ wd_140) (fun _ h9 => h9) rfl dX6_status_72 ?_
    exact gx_retP C hS (by decide) dX6_status_75
  by_cases w_4 : wv = 3
  · subst w_4
    refine lv_tableIn (off := 75) (tgt := 76) hx hb dX6_status_1 (by decide) (by decide) (by decide) (by decide) ?_
    refine lv_aload_n hx hb dX6_status_76 rfl (lv_at hl 0 rfl) ?_
    refine va_get (D := D) (ci := 4) (v := .ref (ad 1)) (C := RX6) (T := TX6) (N := 10) hx hb hT iw_TX6 hown hK.1 hP 0 rfl rfl 0 (by decide) (hT _ wd_271) (fun _ h9 => h9) rfl dX6_status_77 ?_
    refine va_get (D := D) (ci := 0) (v := .int 0) (C := RX1) (T := TX1) (N := 17) hx hb hT iw_TX1 hown hK.1 hP 1 rfl rfl 12 (by decide) (hT _ wd_143) (fun _ h9 => h9) rfl dX6_status_80 ?_
    exact gx_retP C hS (by decide) dX6_status_83
  by_cases w_5 : wv = 4
  · subst w_5
    refine lv_tableIn (off := 83) (tgt := 84) hx hb dX6_status_1 (by decide) (by decide) (by decide) (by decide) ?_
    refine lv_aload_n hx hb dX6_status_84 rfl (lv_at hl 0 rfl) ?_
    refine va_get (D := D) (ci := 4) (v := .ref (ad 1)) (C := RX6) (T := TX6) (N := 10) hx hb hT iw_TX6 hown hK.1 hP 0 rfl rfl 0 (by decide) (hT _ wd_271) (fun _ h9 => h9) rfl dX6_status_85 ?_
    refine gx_pi hP hS (gx_runV (na := 0) (As := []) (rest := []) (ci := 0) C hl.1 hK (gx_subP (wc := ([((ad 1), .inr (0, [.ref (ad 10), .ref (ad 11), .ref (ad 12), .ref (ad 13), .ref (ad 14), .ref (ad 15), .ref (ad 16), .ref (ad 17), .ref (ad 18), .int 0, .int 0, .int 0, .int 0, .int 1, .int 0, .int 0, .int 0]))] : va_W)) hP [1] rfl) ((hD.sub (ws' := ([((ad 1), .inr (0, [.ref (ad 10), .ref (ad 11), .ref (ad 12), .ref (ad 13), .ref (ad 14), .ref (ad 15), .ref (ad 16), .ref (ad 17), .ref (ad 18), .int 0, .int 0, .int 0, .int 0, .int 1, .int 0, .int 0, .int 0]))] : va_W)) [1] (by decide) rfl).weaken (fun _ _ _ _ => trivial)) (k_goneInAll l D k (ad 1) (ad 10) (ad 11) (ad 12) (ad 13) (ad 14) (ad 15) (ad 16) (ad 17) (ad 18) _) gV_RX6_306 (by decide +kernel) rfl rfl ⟨Nat.le_of_ble_eq_true rfl, Nat.le_of_ble_eq_true rfl⟩ rfl rfl rfl rfl (Nat.le_of_ble_eq_true rfl) dX6_status_88 ⟨Nat.le_of_ble_eq_true rfl, Nat.le_of_ble_eq_true rfl⟩) (fun r_7 H locs c_6 hP hS => ?_)
    have c_6 : r_7 = 0 := c_6
    subst c_6
    exact gx_retP C hS (by decide) dX6_status_91
  by_cases w_8 : wv = 5
  · subst w_8
    refine lv_tableIn (off := 91) (tgt := 92) hx hb dX6_status_1 (by decide) (by decide) (by decide) (by decide) ?_
    refine lv_aload_n hx hb dX6_status_92 rfl (lv_at hl 0 rfl) ?_
    refine va_get (D := D) (ci := 4) (v := .ref (ad 4)) (C := RX6) (T := TX6) (N := 10) hx hb hT iw_TX6 hown hK.1 hP 0 rfl rfl 3 (by decide) (hT _ wd_274) (fun _ h9 => h9) rfl dX6_status_93 ?_
    refine va_get (D := D) (ci := 2) (v := .int 0) (C := RX4) (T := TX4) (N := 6) hx hb hT iw_TX4 hown hK.1 hP 2 rfl rfl 1 (by decide) (hT _ wd_197) (fun _ h9 => h9) rfl dX6_status_96 ?_
    exact gx_retP C hS (by decide) dX6_status_99
  by_cases w_9 : wv = 6
  · subst w_9
    refine lv_tableIn (off := 99) (tgt := 100) hx hb dX6_status_1 (by decide) (by decide) (by decide) (by decide) ?_
    refine lv_aload_n hx hb dX6_status_100 rfl (lv_at hl 0 rfl) ?_
    refine va_get (D := D) (ci := 4) (v := .ref (ad 1)) (C := RX6) (T := TX6) (N := 10) hx hb hT iw_TX6 hown hK.1 hP 0 rfl rfl 0 (by decide) (hT _ wd_271) (fun _ h9 => h9) rfl dX6_status_101 ?_
    refine va_get (D := D) (ci := 0) (v := .int 1) (C := RX1) (T := TX1) (N := 17) hx hb hT iw_TX1 hown hK.1 hP 1 rfl rfl 13 (by decide) (hT _ wd_145) (fun _ h9 => h9) rfl dX6_status_104 ?_
    exact gx_retP C hS (by decide) dX6_status_107
  by_cases w_10 : wv = 7
  · subst w_10
    refine lv_tableIn (off := 107) (tgt := 108) hx hb dX6_status_1 (by decide) (by decide) (by decide) (by decide) ?_
    refine lv_aload_n hx hb dX6_status_108 rfl (lv_at hl 0 rfl) ?_
    refine gx_pi hP hS (gx_runV (na := 0) (As := []) (rest := []) (ci := 4) C hl.1 hK (gx_subP (wc := ([((ad 0), .inr (4, [.ref (ad 1), .ref (ad 2), .ref (ad 3), .ref (ad 4), .ref (ad 5), .ref (ad 6), .ref (ad 7), .ref (ad 8), .ref (ad 9), .int 0])), ((ad 5), .inl (k 2, 8, .inr (.inr (.inr (.inr fs))))), ((ad 50), .inr (1, [.ref (ad 60), .int 0, .int 0, .int (-1)])), ((ad 51), .inr (1, [.ref (ad 61), .int 0, .int 0, .int (-1)])), ((ad 52), .inr (1, [.ref (ad 62), .int 0, .int 0, .int (-1)])), ((ad 53), .inr (1, [.ref (ad 63), .int 0, .int 0, .int (-1)])), ((ad 54), .inr (1, [.ref (ad 64), .int 0, .int 0, .int (-1)])), ((ad 55), .inr (1, [.ref (ad 65), .int 0, .int 0, .int (-1)])), ((ad 56), .inr (1, [.ref (ad 66), .int 0, .int 0, .int (-1)])), ((ad 57), .inr (1, [.ref (ad 67), .int 0, .int 0, .int (-1)]))] : va_W)) hP [0, 4, 5, 6, 7, 8, 9, 10, 11, 12] rfl) ((hD.sub (ws' := ([((ad 0), .inr (4, [.ref (ad 1), .ref (ad 2), .ref (ad 3), .ref (ad 4), .ref (ad 5), .ref (ad 6), .ref (ad 7), .ref (ad 8), .ref (ad 9), .int 0])), ((ad 5), .inl (k 2, 8, .inr (.inr (.inr (.inr fs))))), ((ad 50), .inr (1, [.ref (ad 60), .int 0, .int 0, .int (-1)])), ((ad 51), .inr (1, [.ref (ad 61), .int 0, .int 0, .int (-1)])), ((ad 52), .inr (1, [.ref (ad 62), .int 0, .int 0, .int (-1)])), ((ad 53), .inr (1, [.ref (ad 63), .int 0, .int 0, .int (-1)])), ((ad 54), .inr (1, [.ref (ad 64), .int 0, .int 0, .int (-1)])), ((ad 55), .inr (1, [.ref (ad 65), .int 0, .int 0, .int (-1)])), ((ad 56), .inr (1, [.ref (ad 66), .int 0, .int 0, .int (-1)])), ((ad 57), .inr (1, [.ref (ad 67), .int 0, .int 0, .int (-1)]))] : va_W)) [0, 4, 5, 6, 7, 8, 9, 10, 11, 12] (by decide) rfl).weaken (fun _ _ _ _ => trivial)) (k_filled l D k ad fs hfs _) gV_RX6_309 (by decide +kernel) rfl rfl ⟨Nat.le_of_ble_eq_true rfl, Nat.le_of_ble_eq_true rfl⟩ rfl rfl rfl rfl (Nat.le_of_ble_eq_true rfl) dX6_status_109 ⟨Nat.le_of_ble_eq_true rfl, Nat.le_of_ble_eq_true rfl⟩) (fun r_12 H locs c_11 hP hS => ?_)
    have c_11 : r_12 = 0 := c_11
    subst c_11
    exact gx_retP C hS (by decide) dX6_status_112
  by_cases w_13 : wv = 8
  · subst w_13
    refine lv_tableIn (off := 112) (tgt := 113) hx hb dX6_status_1 (by decide) (by decide) (by decide) (by decide) ?_
    refine lv_aload_n hx hb dX6_status_113 rfl (lv_at hl 0 rfl) ?_
    refine va_get (D := D) (ci := 4) (v := .ref (ad 1)) (C := RX6) (T := TX6) (N := 10) hx hb hT iw_TX6 hown hK.1 hP 0 rfl rfl 0 (by decide) (hT _ wd_271) (fun _ h9 => h9) rfl dX6_status_114 ?_
    refine va_get (D := D) (ci := 0) (v := .int 0) (C := RX1) (T := TX1) (N := 17) hx hb hT iw_TX1 hown hK.1 hP 1 rfl rfl 14 (by decide) (hT _ wd_148) (fun _ h9 => h9) rfl dX6_status_117 ?_
    refine gx_pi hP hS (gx_runS (na := 1) (As := [.int 0]) (rest := []) C hl.1 hK (gx_subP (wc := ([] : va_W)) hP [] rfl) ((hD.sub (ws' := ([] : va_W)) [] (by decide) rfl).weaken (fun _ _ _ _ => trivial)) (k_bitCount0 l D k _) gS_RX6_247 (by decide +kernel) rfl rfl ⟨Nat.le_of_ble_eq_true rfl, Nat.le_of_ble_eq_true rfl⟩ rfl rfl (Nat.le_of_ble_eq_true rfl) dX6_status_120 ⟨Nat.le_of_ble_eq_true rfl, Nat.le_of_ble_eq_true rfl⟩) (fun r_15 H locs c_14 hP hS => ?_)
    have c_14 : r_15 = 0 := c_14
    subst c_14
    exact gx_retP C hS (by decide) dX6_status_123
  refine lv_tableOut (tgt := 124) hx hb dX6_status_1 (gx_out9 w_1 w_2 w_3 w_4 w_5 w_8 w_9 w_10 w_13) (by decide) ?_
  refine lv_iload_n hx hb dX6_status_124 rfl (lv_at hl 1 rfl) ?_
  refine lv_bipush (v := 12) hx hb dX6_status_125 (by decide) ?_
  refine lv_bipush (v := 16) hx hb dX6_status_127 (by decide) ?_
  refine gx_pi hP hS (gx_runS (na := 3) (As := [.int wv, .int 12, .int 16]) (rest := []) C hl.1 hK (gx_subP (wc := ([] : va_W)) hP [] rfl) ((hD.sub (ws' := ([] : va_W)) [] (by decide) rfl).weaken (fun _ _ _ _ => trivial)) (k_isBetween l D k wv 12 16 _) gS_RX6_57 (by decide +kernel) rfl rfl ⟨Nat.le_of_ble_eq_true rfl, Nat.le_of_ble_eq_true rfl⟩ rfl rfl (Nat.le_of_ble_eq_true rfl) dX6_status_129 ⟨Nat.le_of_ble_eq_true rfl, Nat.le_of_ble_eq_true rfl⟩) (fun r_17 H locs pc_16 hP hS => ?_)
  have oc_16 : r_17 = 1 ∧ gx_b wv 12 16 = true ∨ r_17 = 0 ∧ gx_b wv 12 16 = false := pc_16
  clear pc_16
  rcases oc_16 with ⟨rfl, c_16⟩ | ⟨rfl, c_16⟩
  · refine lv_if_eq (tgt := 147) hx hb dX6_status_132 (by decide) (fun c_18 => absurd c_18 (by decide)) (fun c_18 => ?_)
    refine lv_aload_n hx hb dX6_status_135 rfl (lv_at hl 0 rfl) ?_
    refine va_get (D := D) (ci := 4) (v := .ref (ad 9)) (C := RX6) (T := TX6) (N := 10) hx hb hT iw_TX6 hown hK.1 hP 0 rfl rfl 8 (by decide) (hT _ wd_279) (fun _ h9 => h9) rfl dX6_status_136 ?_
    refine lv_iload_n hx hb dX6_status_139 rfl (lv_at hl 1 rfl) ?_
    refine lv_bipush (v := 12) hx hb dX6_status_140 (by decide) ?_
    refine lv_isub hx hb dX6_status_142 ?_
    refine va_iald hx hb hK.1 hP 3 0 rfl rfl (gx_v12 c_16) dX6_status_143 ?_
    refine gx_cst (v := 0) (rfl) ?_
    refine lv_goto (tgt := 148) hx hb dX6_status_144 (by decide) ?_
    exact gx_retP C hS (by simp [gs_status, w_9, gx_b08 w_1 w_2 w_3 w_4 w_5 w_8 w_9 w_10 w_13, c_16]) dX6_status_148
  · refine lv_if_eq (tgt := 147) hx hb dX6_status_132 (by decide) (fun c_19 => ?_) (fun c_19 => absurd (by decide) c_19)
    refine lv_iconst (v := (-1)) hx hb dX6_status_147 (by decide) ?_
    exact gx_retP C hS (by simp [gs_status, w_9, gx_b08 w_1 w_2 w_3 w_4 w_5 w_8 w_9 w_10 w_13, c_16]) dX6_status_148
