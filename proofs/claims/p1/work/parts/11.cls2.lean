theorem wd_5 : Cond.selects RX4 yX4_advance yX4_advance ∈ gx_T := gx_in (List.mem_of_getElem? (i := 5) (by decide +kernel)) (by decide +kernel)
theorem wd_6 : Cond.selects RX4 yX4_sortAt yX4_sortAt ∈ gx_T := gx_in (List.mem_of_getElem? (i := 6) (by decide +kernel)) (by decide +kernel)
theorem wd_7 : Cond.selects RX4 yX4_readStatement yX4_readStatement ∈ gx_T := gx_in (List.mem_of_getElem? (i := 7) (by decide +kernel)) (by decide +kernel)
theorem wd_8 : Cond.selects RX4 yX4_takes yX4_takes ∈ gx_T := gx_in (List.mem_of_getElem? (i := 8) (by decide +kernel)) (by decide +kernel)
theorem wd_12 : Cond.selects RX4 yX4_stopHere yX4_stopHere ∈ gx_T := gx_in (List.mem_of_getElem? (i := 12) (by decide +kernel)) (by decide +kernel)
theorem wd_70 : Cond.initialized RX1 ∈ gx_T := gx_in (List.mem_of_getElem? (i := 70) (by decide +kernel)) (by decide +kernel)
theorem wd_71 : Cond.initialized RJ7 ∈ gx_T := gx_in (List.mem_of_getElem? (i := 71) (by decide +kernel)) (by decide +kernel)
theorem wd_72 : Cond.initialized RX4 ∈ gx_T := gx_in (List.mem_of_getElem? (i := 72) (by decide +kernel)) (by decide +kernel)
theorem wd_74 : Cond.initialized RX3 ∈ gx_T := gx_in (List.mem_of_getElem? (i := 74) (by decide +kernel)) (by decide +kernel)
theorem wd_76 : Cond.initialized RJ10 ∈ gx_T := gx_in (List.mem_of_getElem? (i := 76) (by decide +kernel)) (by decide +kernel)
theorem wd_102 : Cond.fieldLink RX1 9 "EachRoadOnce$Land" "from" "[I" ∈ gx_T := gx_in (List.mem_of_getElem? (i := 102) (by decide +kernel)) (by decide +kernel)
theorem wd_106 : Cond.fieldLink RX1 15 "EachRoadOnce$Land" "to" "[I" ∈ gx_T := gx_in (List.mem_of_getElem? (i := 106) (by decide +kernel)) (by decide +kernel)
theorem wd_110 : Cond.fieldLink RX1 18 "EachRoadOnce$Land" "ends" "[I" ∈ gx_T := gx_in (List.mem_of_getElem? (i := 110) (by decide +kernel)) (by decide +kernel)
theorem wd_113 : Cond.fieldLink RX1 21 "EachRoadOnce$Land" "miles" "[I" ∈ gx_T := gx_in (List.mem_of_getElem? (i := 113) (by decide +kernel)) (by decide +kernel)
theorem wd_118 : Cond.fieldLink RX1 24 "EachRoadOnce$Land" "home" "[I" ∈ gx_T := gx_in (List.mem_of_getElem? (i := 118) (by decide +kernel)) (by decide +kernel)
theorem wd_121 : Cond.fieldLink RX1 27 "EachRoadOnce$Land" "place" "[I" ∈ gx_T := gx_in (List.mem_of_getElem? (i := 121) (by decide +kernel)) (by decide +kernel)
theorem wd_124 : Cond.fieldLink RX1 30 "EachRoadOnce$Land" "been" "[I" ∈ gx_T := gx_in (List.mem_of_getElem? (i := 124) (by decide +kernel)) (by decide +kernel)
theorem wd_127 : Cond.fieldLink RX1 33 "EachRoadOnce$Land" "gone" "[I" ∈ gx_T := gx_in (List.mem_of_getElem? (i := 127) (by decide +kernel)) (by decide +kernel)
theorem wd_129 : Cond.fieldLink RX1 36 "EachRoadOnce$Land" "when" "[I" ∈ gx_T := gx_in (List.mem_of_getElem? (i := 129) (by decide +kernel)) (by decide +kernel)
theorem wd_132 : Cond.fieldLink RX1 55 "EachRoadOnce$Land" "roads" "I" ∈ gx_T := gx_in (List.mem_of_getElem? (i := 132) (by decide +kernel)) (by decide +kernel)
theorem wd_133 : Cond.fieldLink RX4 40 "EachRoadOnce$Land" "roads" "I" ∈ gx_T := gx_in (List.mem_of_getElem? (i := 133) (by decide +kernel)) (by decide +kernel)
theorem wd_136 : Cond.fieldLink RX1 58 "EachRoadOnce$Land" "people" "I" ∈ gx_T := gx_in (List.mem_of_getElem? (i := 136) (by decide +kernel)) (by decide +kernel)
theorem wd_137 : Cond.fieldLink RX4 54 "EachRoadOnce$Land" "people" "I" ∈ gx_T := gx_in (List.mem_of_getElem? (i := 137) (by decide +kernel)) (by decide +kernel)
theorem wd_139 : Cond.fieldLink RX1 61 "EachRoadOnce$Land" "year" "I" ∈ gx_T := gx_in (List.mem_of_getElem? (i := 139) (by decide +kernel)) (by decide +kernel)
theorem wd_141 : Cond.fieldLink RX1 64 "EachRoadOnce$Land" "anew" "I" ∈ gx_T := gx_in (List.mem_of_getElem? (i := 141) (by decide +kernel)) (by decide +kernel)
theorem wd_144 : Cond.fieldLink RX1 39 "EachRoadOnce$Land" "seed" "I" ∈ gx_T := gx_in (List.mem_of_getElem? (i := 144) (by decide +kernel)) (by decide +kernel)
theorem wd_146 : Cond.fieldLink RX1 67 "EachRoadOnce$Land" "shutRoads" "I" ∈ gx_T := gx_in (List.mem_of_getElem? (i := 146) (by decide +kernel)) (by decide +kernel)
theorem wd_149 : Cond.fieldLink RX1 70 "EachRoadOnce$Land" "roundRoads" "I" ∈ gx_T := gx_in (List.mem_of_getElem? (i := 149) (by decide +kernel)) (by decide +kernel)
theorem wd_151 : Cond.fieldLink RX1 73 "EachRoadOnce$Land" "walked" "I" ∈ gx_T := gx_in (List.mem_of_getElem? (i := 151) (by decide +kernel)) (by decide +kernel)
theorem wd_195 : Cond.fieldLink RX4 9 "EachRoadOnce$Tape" "bytes" "[I" ∈ gx_T := gx_in (List.mem_of_getElem? (i := 195) (by decide +kernel)) (by decide +kernel)
theorem wd_196 : Cond.fieldLink RX4 19 "EachRoadOnce$Tape" "size" "I" ∈ gx_T := gx_in (List.mem_of_getElem? (i := 196) (by decide +kernel)) (by decide +kernel)
theorem wd_198 : Cond.fieldLink RX4 15 "EachRoadOnce$Tape" "fault" "I" ∈ gx_T := gx_in (List.mem_of_getElem? (i := 198) (by decide +kernel)) (by decide +kernel)
theorem wd_200 : Cond.fieldLink RX4 32 "EachRoadOnce$Tape" "sort" "I" ∈ gx_T := gx_in (List.mem_of_getElem? (i := 200) (by decide +kernel)) (by decide +kernel)
theorem wd_201 : Cond.fieldLink RX4 108 "EachRoadOnce$Tape" "start" "I" ∈ gx_T := gx_in (List.mem_of_getElem? (i := 201) (by decide +kernel)) (by decide +kernel)
theorem wd_202 : Cond.fieldLink RX4 22 "EachRoadOnce$Tape" "end" "I" ∈ gx_T := gx_in (List.mem_of_getElem? (i := 202) (by decide +kernel)) (by decide +kernel)
theorem wd_251 : Cond.fieldLink RX3 9 "EachRoadOnce$Shelf" "elements" "[J" ∈ gx_T := gx_in (List.mem_of_getElem? (i := 251) (by decide +kernel)) (by decide +kernel)
theorem wd_255 : Cond.fieldLink RX3 19 "EachRoadOnce$Shelf" "size" "I" ∈ gx_T := gx_in (List.mem_of_getElem? (i := 255) (by decide +kernel)) (by decide +kernel)
theorem wd_257 : Cond.fieldLink RX3 22 "EachRoadOnce$Shelf" "a" "I" ∈ gx_T := gx_in (List.mem_of_getElem? (i := 257) (by decide +kernel)) (by decide +kernel)
theorem wd_275 : Cond.fieldLink RX6 31 "EachRoadOnce" "shelves" "[LEachRoadOnce$Shelf;" ∈ gx_T := gx_in (List.mem_of_getElem? (i := 275) (by decide +kernel)) (by decide +kernel)
theorem wd_320 : Cond.methodLink RX3 25 yJ7_fill_d0a16 ∈ gx_T := gx_in (List.mem_of_getElem? (i := 320) (by decide +kernel)) (by decide +kernel)
theorem wd_321 : Cond.static yJ7_fill_d0a16 ∈ gx_T := gx_in (List.mem_of_getElem? (i := 321) (by decide +kernel)) (by decide +kernel)
theorem wd_322 : Cond.code yJ7_fill_d0a16 cJ7_fill_d0a16 5 none ∈ gx_T := gx_in (List.mem_of_getElem? (i := 322) (by decide +kernel)) (by decide +kernel)
theorem wd_331 : Cond.methodLink RX6 225 yX3_isRule ∈ gx_T := gx_in (List.mem_of_getElem? (i := 331) (by decide +kernel)) (by decide +kernel)
theorem wd_332 : Cond.instanceMethod yX3_isRule ∈ gx_T := gx_in (List.mem_of_getElem? (i := 332) (by decide +kernel)) (by decide +kernel)
theorem wd_333 : Cond.selects RX3 yX3_isRule yX3_isRule ∈ gx_T := gx_in (List.mem_of_getElem? (i := 333) (by decide +kernel)) (by decide +kernel)
theorem wd_334 : Cond.code yX3_isRule cX3_isRule 1 (some .boolean) ∈ gx_T := gx_in (List.mem_of_getElem? (i := 334) (by decide +kernel)) (by decide +kernel)
theorem wd_335 : Cond.methodLink RX6 312 yX3_isEmpty ∈ gx_T := gx_in (List.mem_of_getElem? (i := 335) (by decide +kernel)) (by decide +kernel)
theorem wd_336 : Cond.instanceMethod yX3_isEmpty ∈ gx_T := gx_in (List.mem_of_getElem? (i := 336) (by decide +kernel)) (by decide +kernel)
theorem wd_337 : Cond.selects RX3 yX3_isEmpty yX3_isEmpty ∈ gx_T := gx_in (List.mem_of_getElem? (i := 337) (by decide +kernel)) (by decide +kernel)
theorem wd_338 : Cond.code yX3_isEmpty cX3_isEmpty 1 (some .boolean) ∈ gx_T := gx_in (List.mem_of_getElem? (i := 338) (by decide +kernel)) (by decide +kernel)
theorem wd_355 : Cond.static arraycopyName ∈ gx_T := gx_in (List.mem_of_getElem? (i := 355) (by decide +kernel)) (by decide +kernel)
theorem wd_356 : Cond.native arraycopyName ∈ gx_T := gx_in (List.mem_of_getElem? (i := 356) (by decide +kernel)) (by decide +kernel)
theorem wd_361 : Cond.methodLink RX6 98 yX3_isRow ∈ gx_T := gx_in (List.mem_of_getElem? (i := 361) (by decide +kernel)) (by decide +kernel)
theorem wd_362 : Cond.instanceMethod yX3_isRow ∈ gx_T := gx_in (List.mem_of_getElem? (i := 362) (by decide +kernel)) (by decide +kernel)
theorem wd_363 : Cond.selects RX3 yX3_isRow yX3_isRow ∈ gx_T := gx_in (List.mem_of_getElem? (i := 363) (by decide +kernel)) (by decide +kernel)
theorem wd_364 : Cond.code yX3_isRow cX3_isRow 1 (some .boolean) ∈ gx_T := gx_in (List.mem_of_getElem? (i := 364) (by decide +kernel)) (by decide +kernel)
theorem wd_476 : Cond.methodLink RX1 76 yX1_put ∈ gx_T := gx_in (List.mem_of_getElem? (i := 476) (by decide +kernel)) (by decide +kernel)
theorem wd_477 : Cond.instanceMethod yX1_put ∈ gx_T := gx_in (List.mem_of_getElem? (i := 477) (by decide +kernel)) (by decide +kernel)
theorem wd_478 : Cond.selects RX1 yX1_put yX1_put ∈ gx_T := gx_in (List.mem_of_getElem? (i := 478) (by decide +kernel)) (by decide +kernel)
theorem wd_479 : Cond.code yX1_put cX1_put 3 none ∈ gx_T := gx_in (List.mem_of_getElem? (i := 479) (by decide +kernel)) (by decide +kernel)
theorem wd_513 : Cond.methodLink RX1 49 arraycopyName ∈ gx_T := gx_in (List.mem_of_getElem? (i := 513) (by decide +kernel)) (by decide +kernel)
theorem wd_518 : Cond.methodLink RX4 25 yX4_advance ∈ gx_T := gx_in (List.mem_of_getElem? (i := 518) (by decide +kernel)) (by decide +kernel)
theorem wd_520 : Cond.instanceMethod yX4_advance ∈ gx_T := gx_in (List.mem_of_getElem? (i := 520) (by decide +kernel)) (by decide +kernel)
theorem wd_521 : Cond.code yX4_advance cX4_advance 1 none ∈ gx_T := gx_in (List.mem_of_getElem? (i := 521) (by decide +kernel)) (by decide +kernel)
theorem wd_522 : Cond.methodLink RX4 124 yX4_sortAt ∈ gx_T := gx_in (List.mem_of_getElem? (i := 522) (by decide +kernel)) (by decide +kernel)
theorem wd_524 : Cond.instanceMethod yX4_sortAt ∈ gx_T := gx_in (List.mem_of_getElem? (i := 524) (by decide +kernel)) (by decide +kernel)
theorem wd_525 : Cond.code yX4_sortAt cX4_sortAt 3 (some .int) ∈ gx_T := gx_in (List.mem_of_getElem? (i := 525) (by decide +kernel)) (by decide +kernel)
theorem wd_526 : Cond.methodLink RX4 28 yX4_readStatement ∈ gx_T := gx_in (List.mem_of_getElem? (i := 526) (by decide +kernel)) (by decide +kernel)
theorem wd_528 : Cond.instanceMethod yX4_readStatement ∈ gx_T := gx_in (List.mem_of_getElem? (i := 528) (by decide +kernel)) (by decide +kernel)
theorem wd_529 : Cond.code yX4_readStatement cX4_readStatement 2 none ∈ gx_T := gx_in (List.mem_of_getElem? (i := 529) (by decide +kernel)) (by decide +kernel)
theorem wd_531 : Cond.methodLink RX4 45 yX4_takes ∈ gx_T := gx_in (List.mem_of_getElem? (i := 531) (by decide +kernel)) (by decide +kernel)
theorem wd_533 : Cond.instanceMethod yX4_takes ∈ gx_T := gx_in (List.mem_of_getElem? (i := 533) (by decide +kernel)) (by decide +kernel)
theorem wd_534 : Cond.code yX4_takes cX4_takes 4 (some .boolean) ∈ gx_T := gx_in (List.mem_of_getElem? (i := 534) (by decide +kernel)) (by decide +kernel)
theorem wd_595 : Cond.methodLink RX4 35 yX4_stopHere ∈ gx_T := gx_in (List.mem_of_getElem? (i := 595) (by decide +kernel)) (by decide +kernel)
theorem wd_597 : Cond.instanceMethod yX4_stopHere ∈ gx_T := gx_in (List.mem_of_getElem? (i := 597) (by decide +kernel)) (by decide +kernel)
theorem wd_598 : Cond.code yX4_stopHere cX4_stopHere 1 none ∈ gx_T := gx_in (List.mem_of_getElem? (i := 598) (by decide +kernel)) (by decide +kernel)
theorem wd_753 : Cond.constant RJ6 265 1431655765 ∈ gx_T := gx_in (List.mem_of_getElem? (i := 753) (by decide +kernel)) (by decide +kernel)
theorem wd_754 : Cond.constant RJ6 266 858993459 ∈ gx_T := gx_in (List.mem_of_getElem? (i := 754) (by decide +kernel)) (by decide +kernel)
theorem wd_755 : Cond.constant RJ6 267 252645135 ∈ gx_T := gx_in (List.mem_of_getElem? (i := 755) (by decide +kernel)) (by decide +kernel)
theorem gV_RX6_225 : GoodIn gx_T (wsV RX6 225 RX3 yX3_isRule (.code yX3_isRule cX3_isRule 1 (some .boolean) :: gx_T)) := gx_gV wd_331 wd_332 wd_333 wd_74 wd_334
theorem gV_RX6_312 : GoodIn gx_T (wsV RX6 312 RX3 yX3_isEmpty (.code yX3_isEmpty cX3_isEmpty 1 (some .boolean) :: gx_T)) := gx_gV wd_335 wd_336 wd_337 wd_74 wd_338
theorem gV_RX6_98 : GoodIn gx_T (wsV RX6 98 RX3 yX3_isRow (.code yX3_isRow cX3_isRow 1 (some .boolean) :: gx_T)) := gx_gV wd_361 wd_362 wd_363 wd_74 wd_364
theorem gS_RX3_25 : GoodIn gx_T (va_wsS RX3 25 yJ7_fill_d0a16 (.code yJ7_fill_d0a16 cJ7_fill_d0a16 5 none :: gx_T)) := gx_gS wd_320 wd_321 wd_71 wd_322
theorem gV_RX1_76 : GoodIn gx_T (wsV RX1 76 RX1 yX1_put (.code yX1_put cX1_put 3 none :: gx_T)) := gx_gV wd_476 wd_477 wd_478 wd_70 wd_479
theorem gV_RX4_124 : GoodIn gx_T (wsV RX4 124 RX4 yX4_sortAt (.code yX4_sortAt cX4_sortAt 3 (some .int) :: gx_T)) := gx_gV wd_522 wd_524 wd_6 wd_72 wd_525
theorem gV_RX4_45 : GoodIn gx_T (wsV RX4 45 RX4 yX4_takes (.code yX4_takes cX4_takes 4 (some .boolean) :: gx_T)) := gx_gV wd_531 wd_533 wd_8 wd_72 wd_534
theorem gV_RX4_35 : GoodIn gx_T (wsV RX4 35 RX4 yX4_stopHere (.code yX4_stopHere cX4_stopHere 1 none :: gx_T)) := gx_gV wd_595 wd_597 wd_12 wd_72 wd_598
theorem gV_RX4_25 : GoodIn gx_T (wsV RX4 25 RX4 yX4_advance (.code yX4_advance cX4_advance 1 none :: gx_T)) := gx_gV wd_518 wd_520 wd_5 wd_72 wd_521
theorem gV_RX4_28 : GoodIn gx_T (wsV RX4 28 RX4 yX4_readStatement (.code yX4_readStatement cX4_readStatement 2 none :: gx_T)) := gx_gV wd_526 wd_528 wd_7 wd_72 wd_529
theorem dX6_rowTrouble_0 : decode cX6_rowTrouble 0 = .ok (.aload_n 0, 1) := by decide +kernel
theorem dX6_rowTrouble_1 : decode cX6_rowTrouble 1 = .ok (.getfield 31, 3) := by decide +kernel
theorem dX6_rowTrouble_4 : decode cX6_rowTrouble 4 = .ok (.iload_n 1, 1) := by decide +kernel
theorem dX6_rowTrouble_5 : decode cX6_rowTrouble 5 = .ok (.aaload, 1) := by decide +kernel
theorem dX6_rowTrouble_6 : decode cX6_rowTrouble 6 = .ok (.invokevirtual 225, 3) := by decide +kernel
theorem dX6_rowTrouble_9 : decode cX6_rowTrouble 9 = .ok (.ifCond .eq 6, 3) := by decide +kernel
theorem dX6_rowTrouble_15 : decode cX6_rowTrouble 15 = .ok (.aload_n 0, 1) := by decide +kernel
theorem dX6_rowTrouble_16 : decode cX6_rowTrouble 16 = .ok (.getfield 31, 3) := by decide +kernel
theorem dX6_rowTrouble_19 : decode cX6_rowTrouble 19 = .ok (.iload_n 1, 1) := by decide +kernel
theorem dX6_rowTrouble_20 : decode cX6_rowTrouble 20 = .ok (.aaload, 1) := by decide +kernel
theorem dX6_rowTrouble_21 : decode cX6_rowTrouble 21 = .ok (.invokevirtual 312, 3) := by decide +kernel
theorem dX6_rowTrouble_24 : decode cX6_rowTrouble 24 = .ok (.ifCond .eq 8, 3) := by decide +kernel
theorem dX6_rowTrouble_27 : decode cX6_rowTrouble 27 = .ok (.bipush (-4), 2) := by decide +kernel
theorem dX6_rowTrouble_29 : decode cX6_rowTrouble 29 = .ok (.goto 4, 3) := by decide +kernel
theorem dX6_rowTrouble_33 : decode cX6_rowTrouble 33 = .ok (.ireturn, 1) := by decide +kernel
theorem dX6_ruleTrouble_0 : decode cX6_ruleTrouble 0 = .ok (.aload_n 0, 1) := by decide +kernel
theorem dX6_ruleTrouble_1 : decode cX6_ruleTrouble 1 = .ok (.getfield 31, 3) := by decide +kernel
theorem dX6_ruleTrouble_4 : decode cX6_ruleTrouble 4 = .ok (.iload_n 1, 1) := by decide +kernel
theorem dX6_ruleTrouble_5 : decode cX6_ruleTrouble 5 = .ok (.aaload, 1) := by decide +kernel
theorem dX6_ruleTrouble_6 : decode cX6_ruleTrouble 6 = .ok (.invokevirtual 98, 3) := by decide +kernel
theorem dX6_ruleTrouble_9 : decode cX6_ruleTrouble 9 = .ok (.ifCond .eq 6, 3) := by decide +kernel
theorem dX6_ruleTrouble_15 : decode cX6_ruleTrouble 15 = .ok (.aload_n 0, 1) := by decide +kernel
theorem dX6_ruleTrouble_16 : decode cX6_ruleTrouble 16 = .ok (.getfield 31, 3) := by decide +kernel
theorem dX6_ruleTrouble_19 : decode cX6_ruleTrouble 19 = .ok (.iload_n 1, 1) := by decide +kernel
theorem dX6_ruleTrouble_20 : decode cX6_ruleTrouble 20 = .ok (.aaload, 1) := by decide +kernel
theorem dX6_ruleTrouble_21 : decode cX6_ruleTrouble 21 = .ok (.invokevirtual 312, 3) := by decide +kernel
theorem dX6_ruleTrouble_24 : decode cX6_ruleTrouble 24 = .ok (.ifCond .eq 8, 3) := by decide +kernel
theorem dX6_ruleTrouble_27 : decode cX6_ruleTrouble 27 = .ok (.bipush (-4), 2) := by decide +kernel
theorem dX6_ruleTrouble_29 : decode cX6_ruleTrouble 29 = .ok (.goto 4, 3) := by decide +kernel
theorem dX6_ruleTrouble_33 : decode cX6_ruleTrouble 33 = .ok (.ireturn, 1) := by decide +kernel
theorem dX6_copyTrouble_0 : decode cX6_copyTrouble 0 = .ok (.aload_n 0, 1) := by decide +kernel
theorem dX6_copyTrouble_1 : decode cX6_copyTrouble 1 = .ok (.invokevirtual 225, 3) := by decide +kernel
theorem dX6_copyTrouble_4 : decode cX6_copyTrouble 4 = .ok (.ifCond .ne 10, 3) := by decide +kernel
theorem dX6_copyTrouble_7 : decode cX6_copyTrouble 7 = .ok (.aload_n 1, 1) := by decide +kernel
theorem dX6_copyTrouble_8 : decode cX6_copyTrouble 8 = .ok (.invokevirtual 225, 3) := by decide +kernel
theorem dX6_copyTrouble_11 : decode cX6_copyTrouble 11 = .ok (.ifCond .eq 6, 3) := by decide +kernel
theorem dX6_copyTrouble_17 : decode cX6_copyTrouble 17 = .ok (.aload_n 0, 1) := by decide +kernel
theorem dX6_copyTrouble_18 : decode cX6_copyTrouble 18 = .ok (.invokevirtual 312, 3) := by decide +kernel
theorem dX6_copyTrouble_21 : decode cX6_copyTrouble 21 = .ok (.ifCond .ne 10, 3) := by decide +kernel
theorem dX6_copyTrouble_31 : decode cX6_copyTrouble 31 = .ok (.bipush (-4), 2) := by decide +kernel
theorem dX6_copyTrouble_33 : decode cX6_copyTrouble 33 = .ok (.ireturn, 1) := by decide +kernel
theorem dJ7_fill_d0a16_0 : decode cJ7_fill_d0a16 0 = .ok (.iconst 0, 1) := by decide +kernel
theorem dJ7_fill_d0a16_1 : decode cJ7_fill_d0a16 1 = .ok (.istore_n 3, 1) := by decide +kernel
theorem dJ7_fill_d0a16_2 : decode cJ7_fill_d0a16 2 = .ok (.aload_n 0, 1) := by decide +kernel
theorem dJ7_fill_d0a16_3 : decode cJ7_fill_d0a16 3 = .ok (.arraylength, 1) := by decide +kernel
theorem dJ7_fill_d0a16_4 : decode cJ7_fill_d0a16 4 = .ok (.istore 4, 2) := by decide +kernel
theorem dJ7_fill_d0a16_6 : decode cJ7_fill_d0a16 6 = .ok (.iload_n 3, 1) := by decide +kernel
theorem dJ7_fill_d0a16_7 : decode cJ7_fill_d0a16 7 = .ok (.iload 4, 2) := by decide +kernel
theorem dJ7_fill_d0a16_9 : decode cJ7_fill_d0a16 9 = .ok (.if_icmp .ge 13, 3) := by decide +kernel
theorem dJ7_fill_d0a16_12 : decode cJ7_fill_d0a16 12 = .ok (.aload_n 0, 1) := by decide +kernel
theorem dJ7_fill_d0a16_13 : decode cJ7_fill_d0a16 13 = .ok (.iload_n 3, 1) := by decide +kernel
theorem dJ7_fill_d0a16_14 : decode cJ7_fill_d0a16 14 = .ok (.lload_n 1, 1) := by decide +kernel
theorem dJ7_fill_d0a16_15 : decode cJ7_fill_d0a16 15 = .ok (.lastore, 1) := by decide +kernel
theorem dJ7_fill_d0a16_16 : decode cJ7_fill_d0a16 16 = .ok (.iinc 3 1, 3) := by decide +kernel
theorem dJ7_fill_d0a16_19 : decode cJ7_fill_d0a16 19 = .ok (.goto (-13), 3) := by decide +kernel
theorem dJ7_fill_d0a16_22 : decode cJ7_fill_d0a16 22 = .ok (.return_, 1) := by decide +kernel
theorem dJ7_fill_53178_0 : decode cJ7_fill_53178 0 = .ok (.iconst 0, 1) := by decide +kernel
theorem dJ7_fill_53178_1 : decode cJ7_fill_53178 1 = .ok (.istore_n 2, 1) := by decide +kernel
theorem dJ7_fill_53178_2 : decode cJ7_fill_53178 2 = .ok (.aload_n 0, 1) := by decide +kernel
theorem dJ7_fill_53178_3 : decode cJ7_fill_53178 3 = .ok (.arraylength, 1) := by decide +kernel
theorem dJ7_fill_53178_4 : decode cJ7_fill_53178 4 = .ok (.istore_n 3, 1) := by decide +kernel
theorem dJ7_fill_53178_5 : decode cJ7_fill_53178 5 = .ok (.iload_n 2, 1) := by decide +kernel
theorem dJ7_fill_53178_6 : decode cJ7_fill_53178 6 = .ok (.iload_n 3, 1) := by decide +kernel
theorem dJ7_fill_53178_7 : decode cJ7_fill_53178 7 = .ok (.if_icmp .ge 13, 3) := by decide +kernel
theorem dJ7_fill_53178_10 : decode cJ7_fill_53178 10 = .ok (.aload_n 0, 1) := by decide +kernel
theorem dJ7_fill_53178_11 : decode cJ7_fill_53178 11 = .ok (.iload_n 2, 1) := by decide +kernel
theorem dJ7_fill_53178_12 : decode cJ7_fill_53178 12 = .ok (.iload_n 1, 1) := by decide +kernel
theorem dJ7_fill_53178_13 : decode cJ7_fill_53178 13 = .ok (.iastore, 1) := by decide +kernel
theorem dJ7_fill_53178_14 : decode cJ7_fill_53178 14 = .ok (.iinc 2 1, 3) := by decide +kernel
theorem dJ7_fill_53178_17 : decode cJ7_fill_53178 17 = .ok (.goto (-12), 3) := by decide +kernel
theorem dJ7_fill_53178_20 : decode cJ7_fill_53178 20 = .ok (.return_, 1) := by decide +kernel
theorem dX3_becomeRow_0 : decode cX3_becomeRow 0 = .ok (.aload_n 0, 1) := by decide +kernel
theorem dX3_becomeRow_1 : decode cX3_becomeRow 1 = .ok (.iload_n 1, 1) := by decide +kernel
theorem dX3_becomeRow_2 : decode cX3_becomeRow 2 = .ok (.putfield 15, 3) := by decide +kernel
theorem dX3_becomeRow_5 : decode cX3_becomeRow 5 = .ok (.aload_n 0, 1) := by decide +kernel
theorem dX3_becomeRow_6 : decode cX3_becomeRow 6 = .ok (.iload_n 2, 1) := by decide +kernel
theorem dX3_becomeRow_7 : decode cX3_becomeRow 7 = .ok (.putfield 19, 3) := by decide +kernel
theorem dX3_becomeRow_10 : decode cX3_becomeRow 10 = .ok (.aload_n 0, 1) := by decide +kernel
theorem dX3_becomeRow_11 : decode cX3_becomeRow 11 = .ok (.iconst 0, 1) := by decide +kernel
theorem dX3_becomeRow_12 : decode cX3_becomeRow 12 = .ok (.putfield 22, 3) := by decide +kernel
theorem dX3_becomeRow_15 : decode cX3_becomeRow 15 = .ok (.aload_n 0, 1) := by decide +kernel
theorem dX3_becomeRow_16 : decode cX3_becomeRow 16 = .ok (.getfield 9, 3) := by decide +kernel
theorem dX3_becomeRow_19 : decode cX3_becomeRow 19 = .ok (.lconst 0, 1) := by decide +kernel
theorem dX3_becomeRow_20 : decode cX3_becomeRow 20 = .ok (.invokestatic 25, 3) := by decide +kernel
theorem dX3_becomeRow_23 : decode cX3_becomeRow 23 = .ok (.return_, 1) := by decide +kernel
theorem dX3_becomeRule_0 : decode cX3_becomeRule 0 = .ok (.aload_n 0, 1) := by decide +kernel
theorem dX3_becomeRule_1 : decode cX3_becomeRule 1 = .ok (.bipush 10, 2) := by decide +kernel
theorem dX3_becomeRule_3 : decode cX3_becomeRule 3 = .ok (.iload_n 1, 1) := by decide +kernel
theorem dX3_becomeRule_4 : decode cX3_becomeRule 4 = .ok (.iadd, 1) := by decide +kernel
theorem dX3_becomeRule_5 : decode cX3_becomeRule 5 = .ok (.putfield 15, 3) := by decide +kernel
theorem dX3_becomeRule_8 : decode cX3_becomeRule 8 = .ok (.aload_n 0, 1) := by decide +kernel
theorem dX3_becomeRule_9 : decode cX3_becomeRule 9 = .ok (.iconst 0, 1) := by decide +kernel
theorem dX3_becomeRule_10 : decode cX3_becomeRule 10 = .ok (.putfield 19, 3) := by decide +kernel
theorem dX3_becomeRule_13 : decode cX3_becomeRule 13 = .ok (.aload_n 0, 1) := by decide +kernel
theorem dX3_becomeRule_14 : decode cX3_becomeRule 14 = .ok (.iload_n 2, 1) := by decide +kernel
theorem dX3_becomeRule_15 : decode cX3_becomeRule 15 = .ok (.putfield 22, 3) := by decide +kernel
theorem dX3_becomeRule_18 : decode cX3_becomeRule 18 = .ok (.return_, 1) := by decide +kernel
theorem dX1_build_0 : decode cX1_build 0 = .ok (.aload_n 0, 1) := by decide +kernel
theorem dX1_build_1 : decode cX1_build 1 = .ok (.getfield 55, 3) := by decide +kernel
theorem dX1_build_4 : decode cX1_build 4 = .ok (.istore 5, 2) := by decide +kernel
theorem dX1_build_6 : decode cX1_build 6 = .ok (.aload_n 0, 1) := by decide +kernel
theorem dX1_build_7 : decode cX1_build 7 = .ok (.getfield 9, 3) := by decide +kernel
theorem dX1_build_10 : decode cX1_build 10 = .ok (.iload 5, 2) := by decide +kernel
theorem dX1_build_12 : decode cX1_build 12 = .ok (.iload_n 1, 1) := by decide +kernel
theorem dX1_build_13 : decode cX1_build 13 = .ok (.iastore, 1) := by decide +kernel
theorem dX1_build_14 : decode cX1_build 14 = .ok (.aload_n 0, 1) := by decide +kernel
theorem dX1_build_15 : decode cX1_build 15 = .ok (.getfield 15, 3) := by decide +kernel
theorem dX1_build_18 : decode cX1_build 18 = .ok (.iload 5, 2) := by decide +kernel
theorem dX1_build_20 : decode cX1_build 20 = .ok (.iload_n 2, 1) := by decide +kernel
theorem dX1_build_21 : decode cX1_build 21 = .ok (.iastore, 1) := by decide +kernel
theorem dX1_build_22 : decode cX1_build 22 = .ok (.aload_n 0, 1) := by decide +kernel
theorem dX1_build_23 : decode cX1_build 23 = .ok (.getfield 18, 3) := by decide +kernel
theorem dX1_build_26 : decode cX1_build 26 = .ok (.iload 5, 2) := by decide +kernel
theorem dX1_build_28 : decode cX1_build 28 = .ok (.iconst 1, 1) := by decide +kernel
theorem dX1_build_29 : decode cX1_build 29 = .ok (.iload_n 1, 1) := by decide +kernel
theorem dX1_build_30 : decode cX1_build 30 = .ok (.ishl, 1) := by decide +kernel
theorem dX1_build_31 : decode cX1_build 31 = .ok (.iconst 1, 1) := by decide +kernel
theorem dX1_build_32 : decode cX1_build 32 = .ok (.iload_n 2, 1) := by decide +kernel
theorem dX1_build_33 : decode cX1_build 33 = .ok (.ishl, 1) := by decide +kernel
theorem dX1_build_34 : decode cX1_build 34 = .ok (.ior, 1) := by decide +kernel
theorem dX1_build_35 : decode cX1_build 35 = .ok (.iastore, 1) := by decide +kernel
theorem dX1_build_36 : decode cX1_build 36 = .ok (.aload_n 0, 1) := by decide +kernel
theorem dX1_build_37 : decode cX1_build 37 = .ok (.getfield 21, 3) := by decide +kernel
theorem dX1_build_40 : decode cX1_build 40 = .ok (.iload 5, 2) := by decide +kernel
theorem dX1_build_42 : decode cX1_build 42 = .ok (.iload_n 3, 1) := by decide +kernel
theorem dX1_build_43 : decode cX1_build 43 = .ok (.iastore, 1) := by decide +kernel
theorem dX1_build_44 : decode cX1_build 44 = .ok (.iload 4, 2) := by decide +kernel
theorem dX1_build_46 : decode cX1_build 46 = .ok (.ifCond .eq 16, 3) := by decide +kernel
theorem dX1_build_49 : decode cX1_build 49 = .ok (.aload_n 0, 1) := by decide +kernel
theorem dX1_build_50 : decode cX1_build 50 = .ok (.dup, 1) := by decide +kernel
theorem dX1_build_51 : decode cX1_build 51 = .ok (.getfield 70, 3) := by decide +kernel
theorem dX1_build_54 : decode cX1_build 54 = .ok (.iconst 1, 1) := by decide +kernel
theorem dX1_build_55 : decode cX1_build 55 = .ok (.iload 5, 2) := by decide +kernel
theorem dX1_build_57 : decode cX1_build 57 = .ok (.ishl, 1) := by decide +kernel
theorem dX1_build_58 : decode cX1_build 58 = .ok (.ior, 1) := by decide +kernel
theorem dX1_build_59 : decode cX1_build 59 = .ok (.putfield 70, 3) := by decide +kernel
theorem dX1_build_62 : decode cX1_build 62 = .ok (.aload_n 0, 1) := by decide +kernel
theorem dX1_build_63 : decode cX1_build 63 = .ok (.dup, 1) := by decide +kernel
theorem dX1_build_64 : decode cX1_build 64 = .ok (.getfield 55, 3) := by decide +kernel
theorem dX1_build_67 : decode cX1_build 67 = .ok (.iconst 1, 1) := by decide +kernel
theorem dX1_build_68 : decode cX1_build 68 = .ok (.iadd, 1) := by decide +kernel
theorem dX1_build_69 : decode cX1_build 69 = .ok (.putfield 55, 3) := by decide +kernel
theorem dX1_build_72 : decode cX1_build 72 = .ok (.iload 5, 2) := by decide +kernel
theorem dX1_build_74 : decode cX1_build 74 = .ok (.ireturn, 1) := by decide +kernel
theorem dX1_put_0 : decode cX1_put 0 = .ok (.aload_n 0, 1) := by decide +kernel
theorem dX1_put_1 : decode cX1_put 1 = .ok (.getfield 27, 3) := by decide +kernel
theorem dX1_put_4 : decode cX1_put 4 = .ok (.iload_n 1, 1) := by decide +kernel
theorem dX1_put_5 : decode cX1_put 5 = .ok (.iload_n 2, 1) := by decide +kernel
theorem dX1_put_6 : decode cX1_put 6 = .ok (.iastore, 1) := by decide +kernel
theorem dX1_put_7 : decode cX1_put 7 = .ok (.aload_n 0, 1) := by decide +kernel
theorem dX1_put_8 : decode cX1_put 8 = .ok (.getfield 30, 3) := by decide +kernel
theorem dX1_put_11 : decode cX1_put 11 = .ok (.iload_n 1, 1) := by decide +kernel
theorem dX1_put_12 : decode cX1_put 12 = .ok (.dup2, 1) := by decide +kernel
theorem dX1_put_13 : decode cX1_put 13 = .ok (.iaload, 1) := by decide +kernel
theorem dX1_put_14 : decode cX1_put 14 = .ok (.iconst 1, 1) := by decide +kernel
theorem dX1_put_15 : decode cX1_put 15 = .ok (.iload_n 2, 1) := by decide +kernel
theorem dX1_put_16 : decode cX1_put 16 = .ok (.ishl, 1) := by decide +kernel
theorem dX1_put_17 : decode cX1_put 17 = .ok (.ior, 1) := by decide +kernel
theorem dX1_put_18 : decode cX1_put 18 = .ok (.iastore, 1) := by decide +kernel
theorem dX1_put_19 : decode cX1_put 19 = .ok (.return_, 1) := by decide +kernel
theorem dX1_settle_0 : decode cX1_settle 0 = .ok (.aload_n 0, 1) := by decide +kernel
theorem dX1_settle_1 : decode cX1_settle 1 = .ok (.getfield 58, 3) := by decide +kernel
theorem dX1_settle_4 : decode cX1_settle 4 = .ok (.istore_n 2, 1) := by decide +kernel
theorem dX1_settle_5 : decode cX1_settle 5 = .ok (.aload_n 0, 1) := by decide +kernel
theorem dX1_settle_6 : decode cX1_settle 6 = .ok (.getfield 24, 3) := by decide +kernel
theorem dX1_settle_9 : decode cX1_settle 9 = .ok (.iload_n 2, 1) := by decide +kernel
theorem dX1_settle_10 : decode cX1_settle 10 = .ok (.iload_n 1, 1) := by decide +kernel
theorem dX1_settle_11 : decode cX1_settle 11 = .ok (.iastore, 1) := by decide +kernel
theorem dX1_settle_12 : decode cX1_settle 12 = .ok (.aload_n 0, 1) := by decide +kernel
theorem dX1_settle_13 : decode cX1_settle 13 = .ok (.dup, 1) := by decide +kernel
theorem dX1_settle_14 : decode cX1_settle 14 = .ok (.getfield 58, 3) := by decide +kernel
theorem dX1_settle_17 : decode cX1_settle 17 = .ok (.iconst 1, 1) := by decide +kernel
theorem dX1_settle_18 : decode cX1_settle 18 = .ok (.iadd, 1) := by decide +kernel
theorem dX1_settle_19 : decode cX1_settle 19 = .ok (.putfield 58, 3) := by decide +kernel
theorem dX1_settle_22 : decode cX1_settle 22 = .ok (.aload_n 0, 1) := by decide +kernel
theorem dX1_settle_23 : decode cX1_settle 23 = .ok (.iload_n 2, 1) := by decide +kernel
theorem dX1_settle_24 : decode cX1_settle 24 = .ok (.iload_n 1, 1) := by decide +kernel
theorem dX1_settle_25 : decode cX1_settle 25 = .ok (.invokevirtual 76, 3) := by decide +kernel
theorem dX1_settle_28 : decode cX1_settle 28 = .ok (.iload_n 2, 1) := by decide +kernel
theorem dX1_settle_29 : decode cX1_settle 29 = .ok (.ireturn, 1) := by decide +kernel
theorem dX1_become_0 : decode cX1_become 0 = .ok (.aload_n 1, 1) := by decide +kernel
theorem dX1_become_1 : decode cX1_become 1 = .ok (.getfield 9, 3) := by decide +kernel
theorem dX1_become_4 : decode cX1_become 4 = .ok (.iconst 0, 1) := by decide +kernel
theorem dX1_become_5 : decode cX1_become 5 = .ok (.aload_n 0, 1) := by decide +kernel
theorem dX1_become_6 : decode cX1_become 6 = .ok (.getfield 9, 3) := by decide +kernel
theorem dX1_become_9 : decode cX1_become 9 = .ok (.iconst 0, 1) := by decide +kernel
theorem dX1_become_10 : decode cX1_become 10 = .ok (.bipush 16, 2) := by decide +kernel
theorem dX1_become_12 : decode cX1_become 12 = .ok (.invokestatic 49, 3) := by decide +kernel
theorem dX1_become_15 : decode cX1_become 15 = .ok (.aload_n 1, 1) := by decide +kernel
theorem dX1_become_16 : decode cX1_become 16 = .ok (.getfield 15, 3) := by decide +kernel
theorem dX1_become_19 : decode cX1_become 19 = .ok (.iconst 0, 1) := by decide +kernel
theorem dX1_become_20 : decode cX1_become 20 = .ok (.aload_n 0, 1) := by decide +kernel
theorem dX1_become_21 : decode cX1_become 21 = .ok (.getfield 15, 3) := by decide +kernel
theorem dX1_become_24 : decode cX1_become 24 = .ok (.iconst 0, 1) := by decide +kernel
theorem dX1_become_25 : decode cX1_become 25 = .ok (.bipush 16, 2) := by decide +kernel
theorem dX1_become_27 : decode cX1_become 27 = .ok (.invokestatic 49, 3) := by decide +kernel
theorem dX1_become_30 : decode cX1_become 30 = .ok (.aload_n 1, 1) := by decide +kernel
theorem dX1_become_31 : decode cX1_become 31 = .ok (.getfield 18, 3) := by decide +kernel
theorem dX1_become_34 : decode cX1_become 34 = .ok (.iconst 0, 1) := by decide +kernel
theorem dX1_become_35 : decode cX1_become 35 = .ok (.aload_n 0, 1) := by decide +kernel
theorem dX1_become_36 : decode cX1_become 36 = .ok (.getfield 18, 3) := by decide +kernel
theorem dX1_become_39 : decode cX1_become 39 = .ok (.iconst 0, 1) := by decide +kernel
theorem dX1_become_40 : decode cX1_become 40 = .ok (.bipush 16, 2) := by decide +kernel
theorem dX1_become_42 : decode cX1_become 42 = .ok (.invokestatic 49, 3) := by decide +kernel
theorem dX1_become_45 : decode cX1_become 45 = .ok (.aload_n 1, 1) := by decide +kernel
theorem dX1_become_46 : decode cX1_become 46 = .ok (.getfield 21, 3) := by decide +kernel
theorem dX1_become_49 : decode cX1_become 49 = .ok (.iconst 0, 1) := by decide +kernel
theorem dX1_become_50 : decode cX1_become 50 = .ok (.aload_n 0, 1) := by decide +kernel
theorem dX1_become_51 : decode cX1_become 51 = .ok (.getfield 21, 3) := by decide +kernel
theorem dX1_become_54 : decode cX1_become 54 = .ok (.iconst 0, 1) := by decide +kernel
theorem dX1_become_55 : decode cX1_become 55 = .ok (.bipush 16, 2) := by decide +kernel
theorem dX1_become_57 : decode cX1_become 57 = .ok (.invokestatic 49, 3) := by decide +kernel
theorem dX1_become_60 : decode cX1_become 60 = .ok (.aload_n 1, 1) := by decide +kernel
theorem dX1_become_61 : decode cX1_become 61 = .ok (.getfield 24, 3) := by decide +kernel
theorem dX1_become_64 : decode cX1_become 64 = .ok (.iconst 0, 1) := by decide +kernel
theorem dX1_become_65 : decode cX1_become 65 = .ok (.aload_n 0, 1) := by decide +kernel
theorem dX1_become_66 : decode cX1_become 66 = .ok (.getfield 24, 3) := by decide +kernel
theorem dX1_become_69 : decode cX1_become 69 = .ok (.iconst 0, 1) := by decide +kernel
theorem dX1_become_70 : decode cX1_become 70 = .ok (.bipush 6, 2) := by decide +kernel
theorem dX1_become_72 : decode cX1_become 72 = .ok (.invokestatic 49, 3) := by decide +kernel
theorem dX1_become_75 : decode cX1_become 75 = .ok (.aload_n 1, 1) := by decide +kernel
theorem dX1_become_76 : decode cX1_become 76 = .ok (.getfield 27, 3) := by decide +kernel
theorem dX1_become_79 : decode cX1_become 79 = .ok (.iconst 0, 1) := by decide +kernel
theorem dX1_become_80 : decode cX1_become 80 = .ok (.aload_n 0, 1) := by decide +kernel
theorem dX1_become_81 : decode cX1_become 81 = .ok (.getfield 27, 3) := by decide +kernel
theorem dX1_become_84 : decode cX1_become 84 = .ok (.iconst 0, 1) := by decide +kernel
theorem dX1_become_85 : decode cX1_become 85 = .ok (.bipush 6, 2) := by decide +kernel
theorem dX1_become_87 : decode cX1_become 87 = .ok (.invokestatic 49, 3) := by decide +kernel
theorem dX1_become_90 : decode cX1_become 90 = .ok (.aload_n 1, 1) := by decide +kernel
theorem dX1_become_91 : decode cX1_become 91 = .ok (.getfield 30, 3) := by decide +kernel
theorem dX1_become_94 : decode cX1_become 94 = .ok (.iconst 0, 1) := by decide +kernel
theorem dX1_become_95 : decode cX1_become 95 = .ok (.aload_n 0, 1) := by decide +kernel
theorem dX1_become_96 : decode cX1_become 96 = .ok (.getfield 30, 3) := by decide +kernel
theorem dX1_become_99 : decode cX1_become 99 = .ok (.iconst 0, 1) := by decide +kernel
theorem dX1_become_100 : decode cX1_become 100 = .ok (.bipush 6, 2) := by decide +kernel
theorem dX1_become_102 : decode cX1_become 102 = .ok (.invokestatic 49, 3) := by decide +kernel
theorem dX1_become_105 : decode cX1_become 105 = .ok (.aload_n 1, 1) := by decide +kernel
theorem dX1_become_106 : decode cX1_become 106 = .ok (.getfield 33, 3) := by decide +kernel
theorem dX1_become_109 : decode cX1_become 109 = .ok (.iconst 0, 1) := by decide +kernel
theorem dX1_become_110 : decode cX1_become 110 = .ok (.aload_n 0, 1) := by decide +kernel
theorem dX1_become_111 : decode cX1_become 111 = .ok (.getfield 33, 3) := by decide +kernel
theorem dX1_become_114 : decode cX1_become 114 = .ok (.iconst 0, 1) := by decide +kernel
theorem dX1_become_115 : decode cX1_become 115 = .ok (.bipush 6, 2) := by decide +kernel
theorem dX1_become_117 : decode cX1_become 117 = .ok (.invokestatic 49, 3) := by decide +kernel
theorem dX1_become_120 : decode cX1_become 120 = .ok (.aload_n 1, 1) := by decide +kernel
theorem dX1_become_121 : decode cX1_become 121 = .ok (.getfield 36, 3) := by decide +kernel
theorem dX1_become_124 : decode cX1_become 124 = .ok (.iconst 0, 1) := by decide +kernel
theorem dX1_become_125 : decode cX1_become 125 = .ok (.aload_n 0, 1) := by decide +kernel
theorem dX1_become_126 : decode cX1_become 126 = .ok (.getfield 36, 3) := by decide +kernel
theorem dX1_become_129 : decode cX1_become 129 = .ok (.iconst 0, 1) := by decide +kernel
theorem dX1_become_130 : decode cX1_become 130 = .ok (.bipush 96, 2) := by decide +kernel
theorem dX1_become_132 : decode cX1_become 132 = .ok (.invokestatic 49, 3) := by decide +kernel
theorem dX1_become_135 : decode cX1_become 135 = .ok (.aload_n 0, 1) := by decide +kernel
theorem dX1_become_136 : decode cX1_become 136 = .ok (.aload_n 1, 1) := by decide +kernel
theorem dX1_become_137 : decode cX1_become 137 = .ok (.getfield 55, 3) := by decide +kernel
theorem dX1_become_140 : decode cX1_become 140 = .ok (.putfield 55, 3) := by decide +kernel
theorem dX1_become_143 : decode cX1_become 143 = .ok (.aload_n 0, 1) := by decide +kernel
theorem dX1_become_144 : decode cX1_become 144 = .ok (.aload_n 1, 1) := by decide +kernel
theorem dX1_become_145 : decode cX1_become 145 = .ok (.getfield 58, 3) := by decide +kernel
theorem dX1_become_148 : decode cX1_become 148 = .ok (.putfield 58, 3) := by decide +kernel
theorem dX1_become_151 : decode cX1_become 151 = .ok (.aload_n 0, 1) := by decide +kernel
theorem dX1_become_152 : decode cX1_become 152 = .ok (.aload_n 1, 1) := by decide +kernel
theorem dX1_become_153 : decode cX1_become 153 = .ok (.getfield 61, 3) := by decide +kernel
theorem dX1_become_156 : decode cX1_become 156 = .ok (.putfield 61, 3) := by decide +kernel
theorem dX1_become_159 : decode cX1_become 159 = .ok (.aload_n 0, 1) := by decide +kernel
theorem dX1_become_160 : decode cX1_become 160 = .ok (.aload_n 1, 1) := by decide +kernel
theorem dX1_become_161 : decode cX1_become 161 = .ok (.getfield 64, 3) := by decide +kernel
theorem dX1_become_164 : decode cX1_become 164 = .ok (.putfield 64, 3) := by decide +kernel
theorem dX1_become_167 : decode cX1_become 167 = .ok (.aload_n 0, 1) := by decide +kernel
theorem dX1_become_168 : decode cX1_become 168 = .ok (.aload_n 1, 1) := by decide +kernel
theorem dX1_become_169 : decode cX1_become 169 = .ok (.getfield 39, 3) := by decide +kernel
theorem dX1_become_172 : decode cX1_become 172 = .ok (.putfield 39, 3) := by decide +kernel
theorem dX1_become_175 : decode cX1_become 175 = .ok (.aload_n 0, 1) := by decide +kernel
theorem dX1_become_176 : decode cX1_become 176 = .ok (.aload_n 1, 1) := by decide +kernel
theorem dX1_become_177 : decode cX1_become 177 = .ok (.getfield 67, 3) := by decide +kernel
theorem dX1_become_180 : decode cX1_become 180 = .ok (.putfield 67, 3) := by decide +kernel
theorem dX1_become_183 : decode cX1_become 183 = .ok (.aload_n 0, 1) := by decide +kernel
theorem dX1_become_184 : decode cX1_become 184 = .ok (.aload_n 1, 1) := by decide +kernel
theorem dX1_become_185 : decode cX1_become 185 = .ok (.getfield 70, 3) := by decide +kernel
theorem dX1_become_188 : decode cX1_become 188 = .ok (.putfield 70, 3) := by decide +kernel
theorem dX1_become_191 : decode cX1_become 191 = .ok (.aload_n 0, 1) := by decide +kernel
theorem dX1_become_192 : decode cX1_become 192 = .ok (.aload_n 1, 1) := by decide +kernel
theorem dX1_become_193 : decode cX1_become 193 = .ok (.getfield 73, 3) := by decide +kernel
theorem dX1_become_196 : decode cX1_become 196 = .ok (.putfield 73, 3) := by decide +kernel
theorem dX1_become_199 : decode cX1_become 199 = .ok (.return_, 1) := by decide +kernel
theorem dX1_goneInAll_0 : decode cX1_goneInAll 0 = .ok (.iconst 0, 1) := by decide +kernel
theorem dX1_goneInAll_1 : decode cX1_goneInAll 1 = .ok (.istore_n 1, 1) := by decide +kernel
theorem dX1_goneInAll_2 : decode cX1_goneInAll 2 = .ok (.iconst 0, 1) := by decide +kernel
theorem dX1_goneInAll_3 : decode cX1_goneInAll 3 = .ok (.istore_n 2, 1) := by decide +kernel
theorem dX1_goneInAll_4 : decode cX1_goneInAll 4 = .ok (.iload_n 2, 1) := by decide +kernel
theorem dX1_goneInAll_5 : decode cX1_goneInAll 5 = .ok (.aload_n 0, 1) := by decide +kernel
theorem dX1_goneInAll_6 : decode cX1_goneInAll 6 = .ok (.getfield 58, 3) := by decide +kernel
theorem dX1_goneInAll_9 : decode cX1_goneInAll 9 = .ok (.if_icmp .ge 18, 3) := by decide +kernel
theorem dX1_goneInAll_27 : decode cX1_goneInAll 27 = .ok (.iload_n 1, 1) := by decide +kernel
theorem dX1_goneInAll_28 : decode cX1_goneInAll 28 = .ok (.ireturn, 1) := by decide +kernel
theorem dX4_append_0 : decode cX4_append 0 = .ok (.iload_n 2, 1) := by decide +kernel
theorem dX4_append_1 : decode cX4_append 1 = .ok (.iconst 1, 1) := by decide +kernel
theorem dX4_append_2 : decode cX4_append 2 = .ok (.isub, 1) := by decide +kernel
theorem dX4_append_3 : decode cX4_append 3 = .ok (.istore_n 3, 1) := by decide +kernel
theorem dX4_append_4 : decode cX4_append 4 = .ok (.iload_n 3, 1) := by decide +kernel
theorem dX4_append_5 : decode cX4_append 5 = .ok (.ifCond .lt 48, 3) := by decide +kernel
theorem dX4_append_8 : decode cX4_append 8 = .ok (.aload_n 0, 1) := by decide +kernel
theorem dX4_append_9 : decode cX4_append 9 = .ok (.getfield 19, 3) := by decide +kernel
theorem dX4_append_12 : decode cX4_append 12 = .ok (.sipush 250, 3) := by decide +kernel
theorem dX4_append_15 : decode cX4_append 15 = .ok (.if_icmp .ge 38, 3) := by decide +kernel
theorem dX4_append_18 : decode cX4_append 18 = .ok (.aload_n 0, 1) := by decide +kernel
theorem dX4_append_19 : decode cX4_append 19 = .ok (.getfield 9, 3) := by decide +kernel
theorem dX4_append_22 : decode cX4_append 22 = .ok (.aload_n 0, 1) := by decide +kernel
theorem dX4_append_23 : decode cX4_append 23 = .ok (.getfield 19, 3) := by decide +kernel
theorem dX4_append_26 : decode cX4_append 26 = .ok (.iload_n 1, 1) := by decide +kernel
theorem dX4_append_27 : decode cX4_append 27 = .ok (.bipush 8, 2) := by decide +kernel
theorem dX4_append_29 : decode cX4_append 29 = .ok (.iload_n 3, 1) := by decide +kernel
theorem dX4_append_30 : decode cX4_append 30 = .ok (.imul, 1) := by decide +kernel
theorem dX4_append_31 : decode cX4_append 31 = .ok (.ishr, 1) := by decide +kernel
theorem dX4_append_32 : decode cX4_append 32 = .ok (.sipush 255, 3) := by decide +kernel
theorem dX4_append_35 : decode cX4_append 35 = .ok (.iand, 1) := by decide +kernel
theorem dX4_append_36 : decode cX4_append 36 = .ok (.iastore, 1) := by decide +kernel
theorem dX4_append_37 : decode cX4_append 37 = .ok (.aload_n 0, 1) := by decide +kernel
theorem dX4_append_38 : decode cX4_append 38 = .ok (.dup, 1) := by decide +kernel
theorem dX4_append_39 : decode cX4_append 39 = .ok (.getfield 19, 3) := by decide +kernel
theorem dX4_append_42 : decode cX4_append 42 = .ok (.iconst 1, 1) := by decide +kernel
theorem dX4_append_43 : decode cX4_append 43 = .ok (.iadd, 1) := by decide +kernel
theorem dX4_append_44 : decode cX4_append 44 = .ok (.putfield 19, 3) := by decide +kernel
theorem dX4_append_47 : decode cX4_append 47 = .ok (.iinc 3 (-1), 3) := by decide +kernel
theorem dX4_append_50 : decode cX4_append 50 = .ok (.goto (-46), 3) := by decide +kernel
theorem dX4_append_53 : decode cX4_append 53 = .ok (.return_, 1) := by decide +kernel
theorem dX4_sortAt_0 : decode cX4_sortAt 0 = .ok (.iload_n 1, 1) := by decide +kernel
theorem dX4_sortAt_1 : decode cX4_sortAt 1 = .ok (.ifCond .lt 11, 3) := by decide +kernel
theorem dX4_sortAt_4 : decode cX4_sortAt 4 = .ok (.iload_n 1, 1) := by decide +kernel
theorem dX4_sortAt_5 : decode cX4_sortAt 5 = .ok (.aload_n 0, 1) := by decide +kernel
theorem dX4_sortAt_6 : decode cX4_sortAt 6 = .ok (.getfield 19, 3) := by decide +kernel
theorem dX4_sortAt_9 : decode cX4_sortAt 9 = .ok (.if_icmp .lt 5, 3) := by decide +kernel
theorem dX4_sortAt_12 : decode cX4_sortAt 12 = .ok (.iconst 0, 1) := by decide +kernel
theorem dX4_sortAt_13 : decode cX4_sortAt 13 = .ok (.ireturn, 1) := by decide +kernel
theorem dX4_advance_0 : decode cX4_advance 0 = .ok (.aload_n 0, 1) := by decide +kernel
theorem dX4_advance_1 : decode cX4_advance 1 = .ok (.aload_n 0, 1) := by decide +kernel
theorem dX4_advance_2 : decode cX4_advance 2 = .ok (.getfield 22, 3) := by decide +kernel
theorem dX4_advance_5 : decode cX4_advance 5 = .ok (.putfield 108, 3) := by decide +kernel
theorem dX4_advance_8 : decode cX4_advance 8 = .ok (.aload_n 0, 1) := by decide +kernel
theorem dX4_advance_9 : decode cX4_advance 9 = .ok (.getfield 108, 3) := by decide +kernel
theorem dX4_advance_12 : decode cX4_advance 12 = .ok (.aload_n 0, 1) := by decide +kernel
theorem dX4_advance_13 : decode cX4_advance 13 = .ok (.getfield 19, 3) := by decide +kernel
theorem dX4_advance_16 : decode cX4_advance 16 = .ok (.if_icmp .ge 30, 3) := by decide +kernel
theorem dX4_advance_46 : decode cX4_advance 46 = .ok (.aload_n 0, 1) := by decide +kernel
theorem dX4_advance_47 : decode cX4_advance 47 = .ok (.aload_n 0, 1) := by decide +kernel
theorem dX4_advance_48 : decode cX4_advance 48 = .ok (.getfield 108, 3) := by decide +kernel
theorem dX4_advance_51 : decode cX4_advance 51 = .ok (.putfield 22, 3) := by decide +kernel
theorem dX4_advance_54 : decode cX4_advance 54 = .ok (.aload_n 0, 1) := by decide +kernel
theorem dX4_advance_55 : decode cX4_advance 55 = .ok (.aload_n 0, 1) := by decide +kernel
theorem dX4_advance_56 : decode cX4_advance 56 = .ok (.aload_n 0, 1) := by decide +kernel
theorem dX4_advance_57 : decode cX4_advance 57 = .ok (.getfield 108, 3) := by decide +kernel
theorem dX4_advance_60 : decode cX4_advance 60 = .ok (.invokevirtual 124, 3) := by decide +kernel
theorem dX4_advance_63 : decode cX4_advance 63 = .ok (.putfield 32, 3) := by decide +kernel
theorem dX4_advance_66 : decode cX4_advance 66 = .ok (.aload_n 0, 1) := by decide +kernel
theorem dX4_advance_67 : decode cX4_advance 67 = .ok (.getfield 32, 3) := by decide +kernel
theorem dX4_advance_70 : decode cX4_advance 70 = .ok (.iconst 3, 1) := by decide +kernel
theorem dX4_advance_71 : decode cX4_advance 71 = .ok (.if_icmp .eq 11, 3) := by decide +kernel
theorem dX4_advance_74 : decode cX4_advance 74 = .ok (.aload_n 0, 1) := by decide +kernel
theorem dX4_advance_75 : decode cX4_advance 75 = .ok (.getfield 32, 3) := by decide +kernel
theorem dX4_advance_78 : decode cX4_advance 78 = .ok (.iconst 4, 1) := by decide +kernel
theorem dX4_advance_79 : decode cX4_advance 79 = .ok (.if_icmp .ne 13, 3) := by decide +kernel
theorem dX4_advance_92 : decode cX4_advance 92 = .ok (.aload_n 0, 1) := by decide +kernel
theorem dX4_advance_93 : decode cX4_advance 93 = .ok (.getfield 32, 3) := by decide +kernel
theorem dX4_advance_96 : decode cX4_advance 96 = .ok (.iconst 1, 1) := by decide +kernel
theorem dX4_advance_97 : decode cX4_advance 97 = .ok (.if_icmp .eq 11, 3) := by decide +kernel
theorem dX4_advance_100 : decode cX4_advance 100 = .ok (.aload_n 0, 1) := by decide +kernel
theorem dX4_advance_101 : decode cX4_advance 101 = .ok (.getfield 32, 3) := by decide +kernel
theorem dX4_advance_104 : decode cX4_advance 104 = .ok (.iconst 2, 1) := by decide +kernel
theorem dX4_advance_105 : decode cX4_advance 105 = .ok (.if_icmp .ne 42, 3) := by decide +kernel
theorem dX4_advance_147 : decode cX4_advance 147 = .ok (.return_, 1) := by decide +kernel
theorem dX4_takes_0 : decode cX4_takes 0 = .ok (.aload_n 0, 1) := by decide +kernel
theorem dX4_takes_1 : decode cX4_takes 1 = .ok (.getfield 15, 3) := by decide +kernel
theorem dX4_takes_4 : decode cX4_takes 4 = .ok (.iconst (-1), 1) := by decide +kernel
theorem dX4_takes_5 : decode cX4_takes 5 = .ok (.if_icmp .ne 31, 3) := by decide +kernel
theorem dX4_takes_8 : decode cX4_takes 8 = .ok (.iload_n 2, 1) := by decide +kernel
theorem dX4_takes_9 : decode cX4_takes 9 = .ok (.ifCond .eq 27, 3) := by decide +kernel
theorem dX4_takes_12 : decode cX4_takes 12 = .ok (.aload_n 0, 1) := by decide +kernel
theorem dX4_takes_13 : decode cX4_takes 13 = .ok (.getfield 32, 3) := by decide +kernel
theorem dX4_takes_16 : decode cX4_takes 16 = .ok (.iconst 1, 1) := by decide +kernel
theorem dX4_takes_17 : decode cX4_takes 17 = .ok (.if_icmp .ne 19, 3) := by decide +kernel
theorem dX4_takes_36 : decode cX4_takes 36 = .ok (.iconst 0, 1) := by decide +kernel
theorem dX4_takes_37 : decode cX4_takes 37 = .ok (.ireturn, 1) := by decide +kernel
theorem dX4_stopHere_0 : decode cX4_stopHere 0 = .ok (.aload_n 0, 1) := by decide +kernel
theorem dX4_stopHere_1 : decode cX4_stopHere 1 = .ok (.getfield 15, 3) := by decide +kernel
theorem dX4_stopHere_4 : decode cX4_stopHere 4 = .ok (.iconst (-1), 1) := by decide +kernel
theorem dX4_stopHere_5 : decode cX4_stopHere 5 = .ok (.if_icmp .ne 11, 3) := by decide +kernel
theorem dX4_stopHere_8 : decode cX4_stopHere 8 = .ok (.aload_n 0, 1) := by decide +kernel
theorem dX4_stopHere_9 : decode cX4_stopHere 9 = .ok (.aload_n 0, 1) := by decide +kernel
theorem dX4_stopHere_10 : decode cX4_stopHere 10 = .ok (.getfield 108, 3) := by decide +kernel
theorem dX4_stopHere_13 : decode cX4_stopHere 13 = .ok (.putfield 15, 3) := by decide +kernel
theorem dX4_stopHere_16 : decode cX4_stopHere 16 = .ok (.return_, 1) := by decide +kernel
theorem dX4_readStatement_0 : decode cX4_readStatement 0 = .ok (.aload_n 0, 1) := by decide +kernel
theorem dX4_readStatement_1 : decode cX4_readStatement 1 = .ok (.ldc 38, 2) := by decide +kernel
theorem dX4_readStatement_3 : decode cX4_readStatement 3 = .ok (.aload_n 1, 1) := by decide +kernel
theorem dX4_readStatement_4 : decode cX4_readStatement 4 = .ok (.getfield 40, 3) := by decide +kernel
theorem dX4_readStatement_7 : decode cX4_readStatement 7 = .ok (.bipush 16, 2) := by decide +kernel
theorem dX4_readStatement_9 : decode cX4_readStatement 9 = .ok (.if_icmp .ge 7, 3) := by decide +kernel
theorem dX4_readStatement_12 : decode cX4_readStatement 12 = .ok (.iconst 1, 1) := by decide +kernel
theorem dX4_readStatement_13 : decode cX4_readStatement 13 = .ok (.goto 4, 3) := by decide +kernel
theorem dX4_readStatement_17 : decode cX4_readStatement 17 = .ok (.invokevirtual 45, 3) := by decide +kernel
theorem dX4_readStatement_20 : decode cX4_readStatement 20 = .ok (.ifCond .eq 11, 3) := by decide +kernel
theorem dX4_readStatement_31 : decode cX4_readStatement 31 = .ok (.aload_n 0, 1) := by decide +kernel
theorem dX4_readStatement_32 : decode cX4_readStatement 32 = .ok (.ldc 52, 2) := by decide +kernel
theorem dX4_readStatement_34 : decode cX4_readStatement 34 = .ok (.aload_n 1, 1) := by decide +kernel
theorem dX4_readStatement_35 : decode cX4_readStatement 35 = .ok (.getfield 54, 3) := by decide +kernel
theorem dX4_readStatement_38 : decode cX4_readStatement 38 = .ok (.bipush 6, 2) := by decide +kernel
theorem dX4_readStatement_40 : decode cX4_readStatement 40 = .ok (.if_icmp .ge 7, 3) := by decide +kernel
theorem dX4_readStatement_43 : decode cX4_readStatement 43 = .ok (.iconst 1, 1) := by decide +kernel
theorem dX4_readStatement_44 : decode cX4_readStatement 44 = .ok (.goto 4, 3) := by decide +kernel
theorem dX4_readStatement_48 : decode cX4_readStatement 48 = .ok (.invokevirtual 45, 3) := by decide +kernel
theorem dX4_readStatement_51 : decode cX4_readStatement 51 = .ok (.ifCond .eq 11, 3) := by decide +kernel
theorem dX4_readStatement_62 : decode cX4_readStatement 62 = .ok (.aload_n 0, 1) := by decide +kernel
theorem dX4_readStatement_63 : decode cX4_readStatement 63 = .ok (.ldc 60, 2) := by decide +kernel
theorem dX4_readStatement_65 : decode cX4_readStatement 65 = .ok (.iconst 1, 1) := by decide +kernel
theorem dX4_readStatement_66 : decode cX4_readStatement 66 = .ok (.invokevirtual 45, 3) := by decide +kernel
theorem dX4_readStatement_69 : decode cX4_readStatement 69 = .ok (.ifCond .eq 11, 3) := by decide +kernel
theorem dX4_readStatement_80 : decode cX4_readStatement 80 = .ok (.aload_n 0, 1) := by decide +kernel
theorem dX4_readStatement_81 : decode cX4_readStatement 81 = .ok (.ldc 65, 2) := by decide +kernel
theorem dX4_readStatement_83 : decode cX4_readStatement 83 = .ok (.iconst 1, 1) := by decide +kernel
theorem dX4_readStatement_84 : decode cX4_readStatement 84 = .ok (.invokevirtual 45, 3) := by decide +kernel
theorem dX4_readStatement_87 : decode cX4_readStatement 87 = .ok (.ifCond .eq 11, 3) := by decide +kernel
theorem dX4_readStatement_98 : decode cX4_readStatement 98 = .ok (.aload_n 0, 1) := by decide +kernel
theorem dX4_readStatement_99 : decode cX4_readStatement 99 = .ok (.ldc 70, 2) := by decide +kernel
theorem dX4_readStatement_101 : decode cX4_readStatement 101 = .ok (.iconst 1, 1) := by decide +kernel
theorem dX4_readStatement_102 : decode cX4_readStatement 102 = .ok (.invokevirtual 45, 3) := by decide +kernel
theorem dX4_readStatement_105 : decode cX4_readStatement 105 = .ok (.ifCond .eq 11, 3) := by decide +kernel
theorem dX4_readStatement_116 : decode cX4_readStatement 116 = .ok (.aload_n 0, 1) := by decide +kernel
theorem dX4_readStatement_117 : decode cX4_readStatement 117 = .ok (.ldc 75, 2) := by decide +kernel
theorem dX4_readStatement_119 : decode cX4_readStatement 119 = .ok (.iconst 1, 1) := by decide +kernel
theorem dX4_readStatement_120 : decode cX4_readStatement 120 = .ok (.invokevirtual 45, 3) := by decide +kernel
theorem dX4_readStatement_123 : decode cX4_readStatement 123 = .ok (.ifCond .eq 11, 3) := by decide +kernel
theorem dX4_readStatement_134 : decode cX4_readStatement 134 = .ok (.aload_n 0, 1) := by decide +kernel
theorem dX4_readStatement_135 : decode cX4_readStatement 135 = .ok (.invokevirtual 35, 3) := by decide +kernel
theorem dX4_readStatement_138 : decode cX4_readStatement 138 = .ok (.return_, 1) := by decide +kernel
theorem dX4_readOnto_0 : decode cX4_readOnto 0 = .ok (.aload_n 0, 1) := by decide +kernel
theorem dX4_readOnto_1 : decode cX4_readOnto 1 = .ok (.iconst (-1), 1) := by decide +kernel
theorem dX4_readOnto_2 : decode cX4_readOnto 2 = .ok (.putfield 15, 3) := by decide +kernel
theorem dX4_readOnto_5 : decode cX4_readOnto 5 = .ok (.aload_n 0, 1) := by decide +kernel
theorem dX4_readOnto_6 : decode cX4_readOnto 6 = .ok (.iconst 0, 1) := by decide +kernel
theorem dX4_readOnto_7 : decode cX4_readOnto 7 = .ok (.putfield 22, 3) := by decide +kernel
theorem dX4_readOnto_10 : decode cX4_readOnto 10 = .ok (.aload_n 0, 1) := by decide +kernel
theorem dX4_readOnto_11 : decode cX4_readOnto 11 = .ok (.invokevirtual 25, 3) := by decide +kernel
theorem dX4_readOnto_14 : decode cX4_readOnto 14 = .ok (.iconst 0, 1) := by decide +kernel
theorem dX4_readOnto_15 : decode cX4_readOnto 15 = .ok (.istore_n 2, 1) := by decide +kernel
theorem dX4_readOnto_16 : decode cX4_readOnto 16 = .ok (.iconst 1, 1) := by decide +kernel
theorem dX4_readOnto_17 : decode cX4_readOnto 17 = .ok (.istore_n 3, 1) := by decide +kernel
theorem dX4_readOnto_18 : decode cX4_readOnto 18 = .ok (.iconst 0, 1) := by decide +kernel
theorem dX4_readOnto_19 : decode cX4_readOnto 19 = .ok (.istore 4, 2) := by decide +kernel
theorem dX4_readOnto_21 : decode cX4_readOnto 21 = .ok (.iload 4, 2) := by decide +kernel
theorem dX4_readOnto_23 : decode cX4_readOnto 23 = .ok (.sipush 250, 3) := by decide +kernel
theorem dX4_readOnto_26 : decode cX4_readOnto 26 = .ok (.if_icmp .ge 51, 3) := by decide +kernel
theorem dX4_readOnto_29 : decode cX4_readOnto 29 = .ok (.iload_n 3, 1) := by decide +kernel
theorem dX4_readOnto_30 : decode cX4_readOnto 30 = .ok (.ifCond .eq 47, 3) := by decide +kernel
theorem dX4_readOnto_33 : decode cX4_readOnto 33 = .ok (.aload_n 0, 1) := by decide +kernel
theorem dX4_readOnto_34 : decode cX4_readOnto 34 = .ok (.aload_n 1, 1) := by decide +kernel
theorem dX4_readOnto_35 : decode cX4_readOnto 35 = .ok (.invokevirtual 28, 3) := by decide +kernel
theorem dX4_readOnto_38 : decode cX4_readOnto 38 = .ok (.iinc 2 1, 3) := by decide +kernel
theorem dX4_readOnto_41 : decode cX4_readOnto 41 = .ok (.aload_n 0, 1) := by decide +kernel
theorem dX4_readOnto_42 : decode cX4_readOnto 42 = .ok (.getfield 15, 3) := by decide +kernel
theorem dX4_readOnto_45 : decode cX4_readOnto 45 = .ok (.iconst (-1), 1) := by decide +kernel
theorem dX4_readOnto_46 : decode cX4_readOnto 46 = .ok (.if_icmp .ne 15, 3) := by decide +kernel
theorem dX4_readOnto_61 : decode cX4_readOnto 61 = .ok (.iconst 0, 1) := by decide +kernel
theorem dX4_readOnto_62 : decode cX4_readOnto 62 = .ok (.istore_n 3, 1) := by decide +kernel
theorem dX4_readOnto_63 : decode cX4_readOnto 63 = .ok (.iload_n 3, 1) := by decide +kernel
theorem dX4_readOnto_64 : decode cX4_readOnto 64 = .ok (.ifCond .eq 7, 3) := by decide +kernel
theorem dX4_readOnto_71 : decode cX4_readOnto 71 = .ok (.iinc 4 1, 3) := by decide +kernel
theorem dX4_readOnto_74 : decode cX4_readOnto 74 = .ok (.goto (-53), 3) := by decide +kernel
theorem dX4_readOnto_77 : decode cX4_readOnto 77 = .ok (.aload_n 0, 1) := by decide +kernel
theorem dX4_readOnto_78 : decode cX4_readOnto 78 = .ok (.getfield 32, 3) := by decide +kernel
theorem dX4_readOnto_81 : decode cX4_readOnto 81 = .ok (.ifCond .eq 7, 3) := by decide +kernel
theorem dX4_readOnto_88 : decode cX4_readOnto 88 = .ok (.iload_n 2, 1) := by decide +kernel
theorem dX4_readOnto_89 : decode cX4_readOnto 89 = .ok (.ireturn, 1) := by decide +kernel
theorem dJ6_bitCount_0f7a4_0 : decode cJ6_bitCount_0f7a4 0 = .ok (.iload_n 0, 1) := by decide +kernel
theorem dJ6_bitCount_0f7a4_1 : decode cJ6_bitCount_0f7a4 1 = .ok (.iload_n 0, 1) := by decide +kernel
theorem dJ6_bitCount_0f7a4_2 : decode cJ6_bitCount_0f7a4 2 = .ok (.iconst 1, 1) := by decide +kernel
theorem dJ6_bitCount_0f7a4_3 : decode cJ6_bitCount_0f7a4 3 = .ok (.iushr, 1) := by decide +kernel
theorem dJ6_bitCount_0f7a4_4 : decode cJ6_bitCount_0f7a4 4 = .ok (.ldc_w 265, 3) := by decide +kernel
theorem dJ6_bitCount_0f7a4_7 : decode cJ6_bitCount_0f7a4 7 = .ok (.iand, 1) := by decide +kernel
theorem dJ6_bitCount_0f7a4_8 : decode cJ6_bitCount_0f7a4 8 = .ok (.isub, 1) := by decide +kernel
theorem dJ6_bitCount_0f7a4_9 : decode cJ6_bitCount_0f7a4 9 = .ok (.istore_n 0, 1) := by decide +kernel
theorem dJ6_bitCount_0f7a4_10 : decode cJ6_bitCount_0f7a4 10 = .ok (.iload_n 0, 1) := by decide +kernel
theorem dJ6_bitCount_0f7a4_11 : decode cJ6_bitCount_0f7a4 11 = .ok (.ldc_w 266, 3) := by decide +kernel
theorem dJ6_bitCount_0f7a4_14 : decode cJ6_bitCount_0f7a4 14 = .ok (.iand, 1) := by decide +kernel
theorem dJ6_bitCount_0f7a4_15 : decode cJ6_bitCount_0f7a4 15 = .ok (.iload_n 0, 1) := by decide +kernel
theorem dJ6_bitCount_0f7a4_16 : decode cJ6_bitCount_0f7a4 16 = .ok (.iconst 2, 1) := by decide +kernel
theorem dJ6_bitCount_0f7a4_17 : decode cJ6_bitCount_0f7a4 17 = .ok (.iushr, 1) := by decide +kernel
theorem dJ6_bitCount_0f7a4_18 : decode cJ6_bitCount_0f7a4 18 = .ok (.ldc_w 266, 3) := by decide +kernel
theorem dJ6_bitCount_0f7a4_21 : decode cJ6_bitCount_0f7a4 21 = .ok (.iand, 1) := by decide +kernel
theorem dJ6_bitCount_0f7a4_22 : decode cJ6_bitCount_0f7a4 22 = .ok (.iadd, 1) := by decide +kernel
theorem dJ6_bitCount_0f7a4_23 : decode cJ6_bitCount_0f7a4 23 = .ok (.istore_n 0, 1) := by decide +kernel
theorem dJ6_bitCount_0f7a4_24 : decode cJ6_bitCount_0f7a4 24 = .ok (.iload_n 0, 1) := by decide +kernel
theorem dJ6_bitCount_0f7a4_25 : decode cJ6_bitCount_0f7a4 25 = .ok (.iload_n 0, 1) := by decide +kernel
theorem dJ6_bitCount_0f7a4_26 : decode cJ6_bitCount_0f7a4 26 = .ok (.iconst 4, 1) := by decide +kernel
theorem dJ6_bitCount_0f7a4_27 : decode cJ6_bitCount_0f7a4 27 = .ok (.iushr, 1) := by decide +kernel
theorem dJ6_bitCount_0f7a4_28 : decode cJ6_bitCount_0f7a4 28 = .ok (.iadd, 1) := by decide +kernel
theorem dJ6_bitCount_0f7a4_29 : decode cJ6_bitCount_0f7a4 29 = .ok (.ldc_w 267, 3) := by decide +kernel
theorem dJ6_bitCount_0f7a4_32 : decode cJ6_bitCount_0f7a4 32 = .ok (.iand, 1) := by decide +kernel
theorem dJ6_bitCount_0f7a4_33 : decode cJ6_bitCount_0f7a4 33 = .ok (.istore_n 0, 1) := by decide +kernel
theorem dJ6_bitCount_0f7a4_34 : decode cJ6_bitCount_0f7a4 34 = .ok (.iload_n 0, 1) := by decide +kernel
theorem dJ6_bitCount_0f7a4_35 : decode cJ6_bitCount_0f7a4 35 = .ok (.iload_n 0, 1) := by decide +kernel
theorem dJ6_bitCount_0f7a4_36 : decode cJ6_bitCount_0f7a4 36 = .ok (.bipush 8, 2) := by decide +kernel
theorem dJ6_bitCount_0f7a4_38 : decode cJ6_bitCount_0f7a4 38 = .ok (.iushr, 1) := by decide +kernel
theorem dJ6_bitCount_0f7a4_39 : decode cJ6_bitCount_0f7a4 39 = .ok (.iadd, 1) := by decide +kernel
theorem dJ6_bitCount_0f7a4_40 : decode cJ6_bitCount_0f7a4 40 = .ok (.istore_n 0, 1) := by decide +kernel
theorem dJ6_bitCount_0f7a4_41 : decode cJ6_bitCount_0f7a4 41 = .ok (.iload_n 0, 1) := by decide +kernel
theorem dJ6_bitCount_0f7a4_42 : decode cJ6_bitCount_0f7a4 42 = .ok (.iload_n 0, 1) := by decide +kernel
theorem dJ6_bitCount_0f7a4_43 : decode cJ6_bitCount_0f7a4 43 = .ok (.bipush 16, 2) := by decide +kernel
theorem dJ6_bitCount_0f7a4_45 : decode cJ6_bitCount_0f7a4 45 = .ok (.iushr, 1) := by decide +kernel
theorem dJ6_bitCount_0f7a4_46 : decode cJ6_bitCount_0f7a4 46 = .ok (.iadd, 1) := by decide +kernel
theorem dJ6_bitCount_0f7a4_47 : decode cJ6_bitCount_0f7a4 47 = .ok (.istore_n 0, 1) := by decide +kernel
theorem dJ6_bitCount_0f7a4_48 : decode cJ6_bitCount_0f7a4 48 = .ok (.iload_n 0, 1) := by decide +kernel
theorem dJ6_bitCount_0f7a4_49 : decode cJ6_bitCount_0f7a4 49 = .ok (.bipush 63, 2) := by decide +kernel
theorem dJ6_bitCount_0f7a4_51 : decode cJ6_bitCount_0f7a4 51 = .ok (.iand, 1) := by decide +kernel
theorem dJ6_bitCount_0f7a4_52 : decode cJ6_bitCount_0f7a4 52 = .ok (.ireturn, 1) := by decide +kernel
set_option maxHeartbeats 4000000 in
set_option maxRecDepth 100000 in
theorem k_rowTrouble (l : Launch) (D : va_G) (k : Nat → ClassId) (ad : Nat → Nat) (fs : Nat → Option Nat) (a : Nat) (el : Nat) (v : Int32) (hbs : gx_b v 0 7 = true) (hf : fs v.toNatClampNeg = some a) (sz : Nat) : Met l yX6_rowTrouble (.code yX6_rowTrouble cX6_rowTrouble 2 (some .int) :: gx_T) ({ frames := 1, cells := 0, slots := 0, locals := 20 }) (gx_Pre D k [.ref (ad 0), .int v] ([((ad 0), .inr (4, [.ref (ad 1), .ref (ad 2), .ref (ad 3), .ref (ad 4), .ref (ad 5), .ref (ad 6), .ref (ad 7), .ref (ad 8), .ref (ad 9), .int 0])), ((ad 5), .inl (k 2, 8, .inr (.inr (.inr (.inr fs))))), (a, .inr (1, [.ref el, .int 0, .int 0, .int (-1)]))]) sz) (gx_Pi (fun r => r = -4)) 0 0 gx_No := by
  refine gx_metP (y := yX6_rowTrouble) (cc := cX6_rowTrouble) (n := 2) (ret := (some .int)) (av := [.ref (ad 0), .int v]) (by decide) (Nat.le_of_ble_eq_true rfl) ?_
  intro p e s m below meth c ls C hP hD hK hS hl
  obtain ⟨hx, hb, hr, hml, hown, hT, hlk, hin⟩ := id C
  have hown : s.vm.findClass RX6 = some m.cls := hown
  have hl : lv_has ls 2 [(0, .ref (ad 0)), (1, .int v)] := hl
  refine lv_aload_n hx hb dX6_rowTrouble_0 rfl (lv_at hl 0 rfl) ?_
  refine va_get (D := D) (ci := 4) (v := .ref (ad 5)) (C := RX6) (T := TX6) (N := 10) hx hb hT iw_TX6 hown hK.1 hP 0 rfl rfl 4 (by decide) (hT _ wd_275) (fun _ h9 => h9) rfl dX6_rowTrouble_1 ?_
  refine lv_iload_n hx hb dX6_rowTrouble_4 rfl (lv_at hl 1 rfl) ?_
  refine va_aldq hx hb hK.1 hP 1 2 rfl rfl (gx_vb hbs (by decide) (by decide)) dX6_rowTrouble_5 ?_
  refine gx_csr (v := .ref a) (congrArg va_rf hf) ?_
  refine gx_pi hP hS (gx_runV (na := 0) (As := []) (rest := []) (ci := 1) C hl.1 hK (gx_subP (wc := ([(a, .inr (1, [.ref el, .int 0, .int 0, .int (-1)]))] : va_W)) hP [2] rfl) ((hD.sub (ws' := ([(a, .inr (1, [.ref el, .int 0, .int 0, .int (-1)]))] : va_W)) [2] (by decide) rfl).weaken (fun _ _ _ _ => trivial)) (k_isRule l D k a el 0 0 _) gV_RX6_225 (by decide +kernel) rfl rfl ⟨Nat.le_of_ble_eq_true rfl, Nat.le_of_ble_eq_true rfl⟩ rfl rfl rfl rfl (Nat.le_of_ble_eq_true rfl) dX6_rowTrouble_6 ⟨Nat.le_of_ble_eq_true rfl, Nat.le_of_ble_eq_true rfl⟩) (fun r_2 H locs c_1 hP hS => ?_)
  have c_1 : r_2 = 0 := c_1
  subst c_1
  refine lv_if_eq (tgt := 15) hx hb dX6_rowTrouble_9 (by decide) (fun c_3 => ?_) (fun c_3 => absurd (by decide) c_3)
  refine lv_aload_n hx hb dX6_rowTrouble_15 rfl (lv_at hl 0 rfl) ?_
  refine va_get (D := D) (ci := 4) (v := .ref (ad 5)) (C := RX6) (T := TX6) (N := 10) hx hb hT iw_TX6 hown hK.1 hP 0 rfl rfl 4 (by decide) (hT _ wd_275) (fun _ h9 => h9) rfl dX6_rowTrouble_16 ?_
  refine lv_iload_n hx hb dX6_rowTrouble_19 rfl (lv_at hl 1 rfl) ?_
  refine va_aldq hx hb hK.1 hP 1 2 rfl rfl (gx_vb hbs (by decide) (by decide)) dX6_rowTrouble_20 ?_
  refine gx_csr (v := .ref a) (congrArg va_rf hf) ?_
  refine gx_pi hP hS (gx_runV (na := 0) (As := []) (rest := []) (ci := 1) C hl.1 hK (gx_subP (wc := ([(a, .inr (1, [.ref el, .int 0, .int 0, .int (-1)]))] : va_W)) hP [2] rfl) ((hD.sub (ws' := ([(a, .inr (1, [.ref el, .int 0, .int 0, .int (-1)]))] : va_W)) [2] (by decide) rfl).weaken (fun _ _ _ _ => trivial)) (k_isEmpty l D k a el 0 0 _) gV_RX6_312 (by decide +kernel) rfl rfl ⟨Nat.le_of_ble_eq_true rfl, Nat.le_of_ble_eq_true rfl⟩ rfl rfl rfl rfl (Nat.le_of_ble_eq_true rfl) dX6_rowTrouble_21 ⟨Nat.le_of_ble_eq_true rfl, Nat.le_of_ble_eq_true rfl⟩) (fun r_5 H locs c_4 hP hS => ?_)
  have c_4 : r_5 = 1 := c_4
  subst c_4
  refine lv_if_eq (tgt := 32) hx hb dX6_rowTrouble_24 (by decide) (fun c_6 => absurd c_6 (by decide)) (fun c_6 => ?_)
  refine lv_bipush (v := (-4)) hx hb dX6_rowTrouble_27 (by decide) ?_
  refine lv_goto (tgt := 33) hx hb dX6_rowTrouble_29 (by decide) ?_
  exact gx_retP C hS (rfl) dX6_rowTrouble_33
set_option maxHeartbeats 4000000 in
set_option maxRecDepth 100000 in
theorem k_ruleTrouble (l : Launch) (D : va_G) (k : Nat → ClassId) (ad : Nat → Nat) (fs : Nat → Option Nat) (a : Nat) (el : Nat) (v : Int32) (hbs : gx_b v 0 7 = true) (hf : fs v.toNatClampNeg = some a) (sz : Nat) : Met l yX6_ruleTrouble (.code yX6_ruleTrouble cX6_ruleTrouble 2 (some .int) :: gx_T) ({ frames := 1, cells := 0, slots := 0, locals := 20 }) (gx_Pre D k [.ref (ad 0), .int v] ([((ad 0), .inr (4, [.ref (ad 1), .ref (ad 2), .ref (ad 3), .ref (ad 4), .ref (ad 5), .ref (ad 6), .ref (ad 7), .ref (ad 8), .ref (ad 9), .int 0])), ((ad 5), .inl (k 2, 8, .inr (.inr (.inr (.inr fs))))), (a, .inr (1, [.ref el, .int 0, .int 0, .int (-1)]))]) sz) (gx_Pi (fun r => r = -4)) 0 0 gx_No := by
  refine gx_metP (y := yX6_ruleTrouble) (cc := cX6_ruleTrouble) (n := 2) (ret := (some .int)) (av := [.ref (ad 0), .int v]) (by decide) (Nat.le_of_ble_eq_true rfl) ?_
  intro p e s m below meth c ls C hP hD hK hS hl
  obtain ⟨hx, hb, hr, hml, hown, hT, hlk, hin⟩ := id C
  have hown : s.vm.findClass RX6 = some m.cls := hown
  have hl : lv_has ls 2 [(0, .ref (ad 0)), (1, .int v)] := hl
  refine lv_aload_n hx hb dX6_ruleTrouble_0 rfl (lv_at hl 0 rfl) ?_
  refine va_get (D := D) (ci := 4) (v := .ref (ad 5)) (C := RX6) (T := TX6) (N := 10) hx hb hT iw_TX6 hown hK.1 hP 0 rfl rfl 4 (by decide) (hT _ wd_275) (fun _ h9 => h9) rfl dX6_ruleTrouble_1 ?_
  refine lv_iload_n hx hb dX6_ruleTrouble_4 rfl (lv_at hl 1 rfl) ?_
  refine va_aldq hx hb hK.1 hP 1 2 rfl rfl (gx_vb hbs (by decide) (by decide)) dX6_ruleTrouble_5 ?_
  refine gx_csr (v := .ref a) (congrArg va_rf hf) ?_
  refine gx_pi hP hS (gx_runV (na := 0) (As := []) (rest := []) (ci := 1) C hl.1 hK (gx_subP (wc := ([(a, .inr (1, [.ref el, .int 0, .int 0, .int (-1)]))] : va_W)) hP [2] rfl) ((hD.sub (ws' := ([(a, .inr (1, [.ref el, .int 0, .int 0, .int (-1)]))] : va_W)) [2] (by decide) rfl).weaken (fun _ _ _ _ => trivial)) (k_isRow l D k a el 0 0 _) gV_RX6_98 (by decide +kernel) rfl rfl ⟨Nat.le_of_ble_eq_true rfl, Nat.le_of_ble_eq_true rfl⟩ rfl rfl rfl rfl (Nat.le_of_ble_eq_true rfl) dX6_ruleTrouble_6 ⟨Nat.le_of_ble_eq_true rfl, Nat.le_of_ble_eq_true rfl⟩) (fun r_2 H locs c_1 hP hS => ?_)
  have c_1 : r_2 = 0 := c_1
  subst c_1
  refine lv_if_eq (tgt := 15) hx hb dX6_ruleTrouble_9 (by decide) (fun c_3 => ?_) (fun c_3 => absurd (by decide) c_3)
  refine lv_aload_n hx hb dX6_ruleTrouble_15 rfl (lv_at hl 0 rfl) ?_
  refine va_get (D := D) (ci := 4) (v := .ref (ad 5)) (C := RX6) (T := TX6) (N := 10) hx hb hT iw_TX6 hown hK.1 hP 0 rfl rfl 4 (by decide) (hT _ wd_275) (fun _ h9 => h9) rfl dX6_ruleTrouble_16 ?_
  refine lv_iload_n hx hb dX6_ruleTrouble_19 rfl (lv_at hl 1 rfl) ?_
  refine va_aldq hx hb hK.1 hP 1 2 rfl rfl (gx_vb hbs (by decide) (by decide)) dX6_ruleTrouble_20 ?_
  refine gx_csr (v := .ref a) (congrArg va_rf hf) ?_
  refine gx_pi hP hS (gx_runV (na := 0) (As := []) (rest := []) (ci := 1) C hl.1 hK (gx_subP (wc := ([(a, .inr (1, [.ref el, .int 0, .int 0, .int (-1)]))] : va_W)) hP [2] rfl) ((hD.sub (ws' := ([(a, .inr (1, [.ref el, .int 0, .int 0, .int (-1)]))] : va_W)) [2] (by decide) rfl).weaken (fun _ _ _ _ => trivial)) (k_isEmpty l D k a el 0 0 _) gV_RX6_312 (by decide +kernel) rfl rfl ⟨Nat.le_of_ble_eq_true rfl, Nat.le_of_ble_eq_true rfl⟩ rfl rfl rfl rfl (Nat.le_of_ble_eq_true rfl) dX6_ruleTrouble_21 ⟨Nat.le_of_ble_eq_true rfl, Nat.le_of_ble_eq_true rfl⟩) (fun r_5 H locs c_4 hP hS => ?_)
  have c_4 : r_5 = 1 := c_4
  subst c_4
  refine lv_if_eq (tgt := 32) hx hb dX6_ruleTrouble_24 (by decide) (fun c_6 => absurd c_6 (by decide)) (fun c_6 => ?_)
  refine lv_bipush (v := (-4)) hx hb dX6_ruleTrouble_27 (by decide) ?_
  refine lv_goto (tgt := 33) hx hb dX6_ruleTrouble_29 (by decide) ?_
  exact gx_retP C hS (rfl) dX6_ruleTrouble_33
set_option maxHeartbeats 4000000 in
set_option maxRecDepth 100000 in
theorem k_copyTrouble1 (l : Launch) (D : va_G) (k : Nat → ClassId) (a : Nat) (el : Nat) (sz : Nat) : Met l yX6_copyTrouble (.code yX6_copyTrouble cX6_copyTrouble 2 (some .int) :: gx_T) ({ frames := 1, cells := 0, slots := 0, locals := 20 }) (gx_Pre D k [.ref a, .ref a] ([(a, .inr (1, [.ref el, .int 0, .int 0, .int (-1)]))]) sz) (gx_Pi (fun r => r = -4)) 0 0 gx_No := by
  refine gx_metP (y := yX6_copyTrouble) (cc := cX6_copyTrouble) (n := 2) (ret := (some .int)) (av := [.ref a, .ref a]) (by decide) (Nat.le_of_ble_eq_true rfl) ?_
  intro p e s m below meth c ls C hP hD hK hS hl
  obtain ⟨hx, hb, hr, hml, hown, hT, hlk, hin⟩ := id C
  have hown : s.vm.findClass RX6 = some m.cls := hown
  have hl : lv_has ls 2 [(0, .ref a), (1, .ref a)] := hl
  refine lv_aload_n hx hb dX6_copyTrouble_0 rfl (lv_at hl 0 rfl) ?_
  refine gx_pi hP hS (gx_runV (na := 0) (As := []) (rest := []) (ci := 1) C hl.1 hK (gx_subP (wc := ([(a, .inr (1, [.ref el, .int 0, .int 0, .int (-1)]))] : va_W)) hP [0] rfl) ((hD.sub (ws' := ([(a, .inr (1, [.ref el, .int 0, .int 0, .int (-1)]))] : va_W)) [0] (by decide) rfl).weaken (fun _ _ _ _ => trivial)) (k_isRule l D k a el 0 0 _) gV_RX6_225 (by decide +kernel) rfl rfl ⟨Nat.le_of_ble_eq_true rfl, Nat.le_of_ble_eq_true rfl⟩ rfl rfl rfl rfl (Nat.le_of_ble_eq_true rfl) dX6_copyTrouble_1 ⟨Nat.le_of_ble_eq_true rfl, Nat.le_of_ble_eq_true rfl⟩) (fun r_2 H locs c_1 hP hS => ?_)
  have c_1 : r_2 = 0 := c_1
  subst c_1
  refine lv_if_ne (tgt := 14) hx hb dX6_copyTrouble_4 (by decide) (fun c_3 => absurd (by decide) c_3) (fun c_3 => ?_)
  refine lv_aload_n hx hb dX6_copyTrouble_7 rfl (lv_at hl 1 rfl) ?_
  refine gx_pi hP hS (gx_runV (na := 0) (As := []) (rest := []) (ci := 1) C hl.1 hK (gx_subP (wc := ([(a, .inr (1, [.ref el, .int 0, .int 0, .int (-1)]))] : va_W)) hP [0] rfl) ((hD.sub (ws' := ([(a, .inr (1, [.ref el, .int 0, .int 0, .int (-1)]))] : va_W)) [0] (by decide) rfl).weaken (fun _ _ _ _ => trivial)) (k_isRule l D k a el 0 0 _) gV_RX6_225 (by decide +kernel) rfl rfl ⟨Nat.le_of_ble_eq_true rfl, Nat.le_of_ble_eq_true rfl⟩ rfl rfl rfl rfl (Nat.le_of_ble_eq_true rfl) dX6_copyTrouble_8 ⟨Nat.le_of_ble_eq_true rfl, Nat.le_of_ble_eq_true rfl⟩) (fun r_5 H locs c_4 hP hS => ?_)
  have c_4 : r_5 = 0 := c_4
  subst c_4
  refine lv_if_eq (tgt := 17) hx hb dX6_copyTrouble_11 (by decide) (fun c_6 => ?_) (fun c_6 => absurd (by decide) c_6)
  refine lv_aload_n hx hb dX6_copyTrouble_17 rfl (lv_at hl 0 rfl) ?_
  refine gx_pi hP hS (gx_runV (na := 0) (As := []) (rest := []) (ci := 1) C hl.1 hK (gx_subP (wc := ([(a, .inr (1, [.ref el, .int 0, .int 0, .int (-1)]))] : va_W)) hP [0] rfl) ((hD.sub (ws' := ([(a, .inr (1, [.ref el, .int 0, .int 0, .int (-1)]))] : va_W)) [0] (by decide) rfl).weaken (fun _ _ _ _ => trivial)) (k_isEmpty l D k a el 0 0 _) gV_RX6_312 (by decide +kernel) rfl rfl ⟨Nat.le_of_ble_eq_true rfl, Nat.le_of_ble_eq_true rfl⟩ rfl rfl rfl rfl (Nat.le_of_ble_eq_true rfl) dX6_copyTrouble_18 ⟨Nat.le_of_ble_eq_true rfl, Nat.le_of_ble_eq_true rfl⟩) (fun r_8 H locs c_7 hP hS => ?_)
  have c_7 : r_8 = 1 := c_7
  subst c_7
  refine lv_if_ne (tgt := 31) hx hb dX6_copyTrouble_21 (by decide) (fun c_9 => ?_) (fun c_9 => absurd c_9 (by decide))
  refine lv_bipush (v := (-4)) hx hb dX6_copyTrouble_31 (by decide) ?_
  exact gx_retP C hS (rfl) dX6_copyTrouble_33
set_option maxHeartbeats 4000000 in
set_option maxRecDepth 100000 in
theorem k_copyTrouble2 (l : Launch) (D : va_G) (k : Nat → ClassId) (a : Nat) (el : Nat) (a2 : Nat) (el2 : Nat) (sz : Nat) : Met l yX6_copyTrouble (.code yX6_copyTrouble cX6_copyTrouble 2 (some .int) :: gx_T) ({ frames := 1, cells := 0, slots := 0, locals := 20 }) (gx_Pre D k [.ref a, .ref a2] ([(a, .inr (1, [.ref el, .int 0, .int 0, .int (-1)])), (a2, .inr (1, [.ref el2, .int 0, .int 0, .int (-1)]))]) sz) (gx_Pi (fun r => r = -4)) 0 0 gx_No := by
  refine gx_metP (y := yX6_copyTrouble) (cc := cX6_copyTrouble) (n := 2) (ret := (some .int)) (av := [.ref a, .ref a2]) (by decide) (Nat.le_of_ble_eq_true rfl) ?_
  intro p e s m below meth c ls C hP hD hK hS hl
  obtain ⟨hx, hb, hr, hml, hown, hT, hlk, hin⟩ := id C
  have hown : s.vm.findClass RX6 = some m.cls := hown
  have hl : lv_has ls 2 [(0, .ref a), (1, .ref a2)] := hl
  refine lv_aload_n hx hb dX6_copyTrouble_0 rfl (lv_at hl 0 rfl) ?_
  refine gx_pi hP hS (gx_runV (na := 0) (As := []) (rest := []) (ci := 1) C hl.1 hK (gx_subP (wc := ([(a, .inr (1, [.ref el, .int 0, .int 0, .int (-1)]))] : va_W)) hP [0] rfl) ((hD.sub (ws' := ([(a, .inr (1, [.ref el, .int 0, .int 0, .int (-1)]))] : va_W)) [0] (by decide) rfl).weaken (fun _ _ _ _ => trivial)) (k_isRule l D k a el 0 0 _) gV_RX6_225 (by decide +kernel) rfl rfl ⟨Nat.le_of_ble_eq_true rfl, Nat.le_of_ble_eq_true rfl⟩ rfl rfl rfl rfl (Nat.le_of_ble_eq_true rfl) dX6_copyTrouble_1 ⟨Nat.le_of_ble_eq_true rfl, Nat.le_of_ble_eq_true rfl⟩) (fun r_2 H locs c_1 hP hS => ?_)
  have c_1 : r_2 = 0 := c_1
  subst c_1
  refine lv_if_ne (tgt := 14) hx hb dX6_copyTrouble_4 (by decide) (fun c_3 => absurd (by decide) c_3) (fun c_3 => ?_)
  refine lv_aload_n hx hb dX6_copyTrouble_7 rfl (lv_at hl 1 rfl) ?_
  refine gx_pi hP hS (gx_runV (na := 0) (As := []) (rest := []) (ci := 1) C hl.1 hK (gx_subP (wc := ([(a2, .inr (1, [.ref el2, .int 0, .int 0, .int (-1)]))] : va_W)) hP [1] rfl) ((hD.sub (ws' := ([(a2, .inr (1, [.ref el2, .int 0, .int 0, .int (-1)]))] : va_W)) [1] (by decide) rfl).weaken (fun _ _ _ _ => trivial)) (k_isRule l D k a2 el2 0 0 _) gV_RX6_225 (by decide +kernel) rfl rfl ⟨Nat.le_of_ble_eq_true rfl, Nat.le_of_ble_eq_true rfl⟩ rfl rfl rfl rfl (Nat.le_of_ble_eq_true rfl) dX6_copyTrouble_8 ⟨Nat.le_of_ble_eq_true rfl, Nat.le_of_ble_eq_true rfl⟩) (fun r_5 H locs c_4 hP hS => ?_)
  have c_4 : r_5 = 0 := c_4
  subst c_4
  refine lv_if_eq (tgt := 17) hx hb dX6_copyTrouble_11 (by decide) (fun c_6 => ?_) (fun c_6 => absurd (by decide) c_6)
  refine lv_aload_n hx hb dX6_copyTrouble_17 rfl (lv_at hl 0 rfl) ?_
  refine gx_pi hP hS (gx_runV (na := 0) (As := []) (rest := []) (ci := 1) C hl.1 hK (gx_subP (wc := ([(a, .inr (1, [.ref el, .int 0, .int 0, .int (-1)]))] : va_W)) hP [0] rfl) ((hD.sub (ws' := ([(a, .inr (1, [.ref el, .int 0, .int 0, .int (-1)]))] : va_W)) [0] (by decide) rfl).weaken (fun _ _ _ _ => trivial)) (k_isEmpty l D k a el 0 0 _) gV_RX6_312 (by decide +kernel) rfl rfl ⟨Nat.le_of_ble_eq_true rfl, Nat.le_of_ble_eq_true rfl⟩ rfl rfl rfl rfl (Nat.le_of_ble_eq_true rfl) dX6_copyTrouble_18 ⟨Nat.le_of_ble_eq_true rfl, Nat.le_of_ble_eq_true rfl⟩) (fun r_8 H locs c_7 hP hS => ?_)
  have c_7 : r_8 = 1 := c_7
  subst c_7
  refine lv_if_ne (tgt := 31) hx hb dX6_copyTrouble_21 (by decide) (fun c_9 => ?_) (fun c_9 => absurd c_9 (by decide))
  refine lv_bipush (v := (-4)) hx hb dX6_copyTrouble_31 (by decide) ?_
  exact gx_retP C hS (rfl) dX6_copyTrouble_33
set_option maxHeartbeats 4000000 in
set_option maxRecDepth 100000 in
theorem k_fillJ (l : Launch) (D : va_G) (k : Nat → ClassId) (h0 : Nat) (n0 : Nat) (f : Nat → Int64) (v : Int64) (hn0 : n0 < 2 ^ 31) (sz : Nat) : Met l yJ7_fill_d0a16 (.code yJ7_fill_d0a16 cJ7_fill_d0a16 5 none :: gx_T) ({ frames := 0, cells := 0, slots := 0, locals := 0 }) (gx_Pre D k [.ref h0, .long v] ([(h0, .inl (k 1, n0, .inr (.inl f)))]) sz) (gx_Qv D (fun (u : (Nat → Int64)) => True) (fun (u : (Nat → Int64)) => ([(h0, .inl (k 1, n0, .inr (.inl u)))] : va_W)) (va_A ([(h0, .inl (k 1, n0, .inr (.inl f)))]) sz)) 0 0 (va_A ([(h0, .inl (k 1, n0, .inr (.inl f)))]) sz) := by
  refine gx_metE (Qc := fun A => gx_Qv D (fun (u : Nat → Int64) => True) (fun (u : Nat → Int64) => ([(h0, .inl (k 1, n0, .inr (.inl u)))] : va_W)) A) (by decide) (Nat.le_of_ble_eq_true rfl) ?_
  intro p e s m below meth c A ls C hA hP hD hK hS hl
  obtain ⟨hx, hb, hr, hml, hown, hT, hlk, hin⟩ := id C
  have hl : lv_has ls 5 [(0, .ref h0), (1, .long v)] := hl
  have loop : ∀ (j i : Nat) (f : Nat → Int64) (H : Heap) (locs : List Loc) (ls : Array Slot), i + j = n0 → va_P D gx_cl [(h0, .inl (k 1, n0, .inr (.inl f)))] H → va_D A [(h0, .inl (k 1, n0, .inr (.inl f)))] → va_S A s.heap H locs → lv_has ls 5 [(4, .int (nI n0)), (3, .int (nI i)), (0, .ref h0), (1, .long v)] → W p l e ({ frames := 0, cells := 0, slots := 0, locals := 0 }) s m ([.ref h0, .long v] : List Value).toArray below meth c H locs 0 0 (MQ below (gx_Qv D (fun (u : Nat → Int64) => True) (fun (u : Nat → Int64) => ([(h0, .inl (k 1, n0, .inr (.inl u)))] : va_W)) A) ([.ref h0, .long v] : List Value).toArray s 0 0 A) (F0 m 6 ls []) := by
    intro j
    induction j with
    | zero =>
      intro i f H locs ls hi hP hD hS hl
      have hi : i = n0 := by omega
      subst hi
      refine lv_iload_n hx hb dJ7_fill_d0a16_6 rfl (lv_at hl 1 rfl) ?_
      refine lv_iload hx hb dJ7_fill_d0a16_7 (lv_at hl 0 rfl) ?_
      refine lv_icmp_ge (tgt := 22) hx hb dJ7_fill_d0a16_9 (by decide) (fun c9 => ?_) (fun c9 => absurd (Int32.le_refl _) c9)
      exact gx_retV C (u := f) hP hD hS trivial dJ7_fill_d0a16_22
    | succ j ih =>
      intro i f H locs ls hi hP hD hS hl
      have hlt : i < n0 := by omega
      refine lv_iload_n hx hb dJ7_fill_d0a16_6 rfl (lv_at hl 1 rfl) ?_
      refine lv_iload hx hb dJ7_fill_d0a16_7 (lv_at hl 0 rfl) ?_
      refine lv_icmp_ge (tgt := 22) hx hb dJ7_fill_d0a16_9 (by decide) (fun c9 => absurd c9 (nI_ge hlt hn0)) (fun c9 => ?_)
      refine lv_aload_n hx hb dJ7_fill_d0a16_12 rfl (lv_at hl 2 rfl) ?_
      refine lv_iload_n hx hb dJ7_fill_d0a16_13 rfl (lv_at hl 1 rfl) ?_
      refine lv_lload_n hx hb dJ7_fill_d0a16_14 rfl (lv_at hl 3 rfl) ?_
      refine va_last hx hb hK.1 hP hD hS 0 1 rfl rfl (vp_in_nI hlt hn0) dJ7_fill_d0a16_15 (fun H locs hP hD hS => ?_)
      refine lv_iinc (v := nI (i + 1)) (lv' := [(3, .int (nI (i + 1))), (4, .int (nI n0)), (0, .ref h0), (1, .long v)]) hx hb dJ7_fill_d0a16_16 hl (k := 1) rfl (nI_1 i) (by decide) rfl (fun ls hl => ?_)
      refine lv_goto (tgt := 6) hx hb dJ7_fill_d0a16_19 (by decide) ?_
      exact ih (i + 1) _ H locs ls (by omega) hP hD hS (lv_sub hl [1, 0, 2, 3] rfl)
  refine lv_iconst (v := 0) hx hb dJ7_fill_d0a16_0 (by decide) ?_
  refine lv_istore_n (lv' := [(3, .int 0), (0, .ref h0), (1, .long v)]) hx hb dJ7_fill_d0a16_1 rfl hl (by decide) rfl (fun ls hl => ?_)
  refine lv_aload_n hx hb dJ7_fill_d0a16_2 rfl (lv_at hl 1 rfl) ?_
  refine va_alen (v := nI n0) hx hb hK.1 hP 0 1 rfl rfl rfl dJ7_fill_d0a16_3 ?_
  refine lv_istore (lv' := [(4, .int (nI n0)), (3, .int 0), (0, .ref h0), (1, .long v)]) hx hb dJ7_fill_d0a16_4 hl (by decide) rfl (fun ls hl => ?_)
  exact loop n0 0 f _ _ ls (by omega) hP hD hS hl
set_option maxHeartbeats 4000000 in
set_option maxRecDepth 100000 in
theorem k_fillI (l : Launch) (D : va_G) (k : Nat → ClassId) (h0 : Nat) (n0 : Nat) (f : Nat → Int32) (v : Int32) (hn0 : n0 < 2 ^ 31) (sz : Nat) : Met l yJ7_fill_53178 (.code yJ7_fill_53178 cJ7_fill_53178 4 none :: gx_T) ({ frames := 0, cells := 0, slots := 0, locals := 0 }) (gx_Pre D k [.ref h0, .int v] ([(h0, .inl (k 0, n0, .inl f))]) sz) (gx_Qv D (fun (u : (Nat → Int32)) => True) (fun (u : (Nat → Int32)) => ([(h0, .inl (k 0, n0, .inl u))] : va_W)) (va_A ([(h0, .inl (k 0, n0, .inl f))]) sz)) 0 0 (va_A ([(h0, .inl (k 0, n0, .inl f))]) sz) := by
  refine gx_metE (Qc := fun A => gx_Qv D (fun (u : Nat → Int32) => True) (fun (u : Nat → Int32) => ([(h0, .inl (k 0, n0, .inl u))] : va_W)) A) (by decide) (Nat.le_of_ble_eq_true rfl) ?_
  intro p e s m below meth c A ls C hA hP hD hK hS hl
  obtain ⟨hx, hb, hr, hml, hown, hT, hlk, hin⟩ := id C
  have hl : lv_has ls 4 [(0, .ref h0), (1, .int v)] := hl
  have loop : ∀ (j i : Nat) (f : Nat → Int32) (H : Heap) (locs : List Loc) (ls : Array Slot), i + j = n0 → va_P D gx_cl [(h0, .inl (k 0, n0, .inl f))] H → va_D A [(h0, .inl (k 0, n0, .inl f))] → va_S A s.heap H locs → lv_has ls 4 [(3, .int (nI n0)), (2, .int (nI i)), (0, .ref h0), (1, .int v)] → W p l e ({ frames := 0, cells := 0, slots := 0, locals := 0 }) s m ([.ref h0, .int v] : List Value).toArray below meth c H locs 0 0 (MQ below (gx_Qv D (fun (u : Nat → Int32) => True) (fun (u : Nat → Int32) => ([(h0, .inl (k 0, n0, .inl u))] : va_W)) A) ([.ref h0, .int v] : List Value).toArray s 0 0 A) (F0 m 5 ls []) := by
    intro j
    induction j with
    | zero =>
      intro i f H locs ls hi hP hD hS hl
      have hi : i = n0 := by omega
      subst hi
      refine lv_iload_n hx hb dJ7_fill_53178_5 rfl (lv_at hl 1 rfl) ?_
      refine lv_iload_n hx hb dJ7_fill_53178_6 rfl (lv_at hl 0 rfl) ?_
      refine lv_icmp_ge (tgt := 20) hx hb dJ7_fill_53178_7 (by decide) (fun c9 => ?_) (fun c9 => absurd (Int32.le_refl _) c9)
      exact gx_retV C (u := f) hP hD hS trivial dJ7_fill_53178_20
    | succ j ih =>
      intro i f H locs ls hi hP hD hS hl
      have hlt : i < n0 := by omega
      refine lv_iload_n hx hb dJ7_fill_53178_5 rfl (lv_at hl 1 rfl) ?_
      refine lv_iload_n hx hb dJ7_fill_53178_6 rfl (lv_at hl 0 rfl) ?_
      refine lv_icmp_ge (tgt := 20) hx hb dJ7_fill_53178_7 (by decide) (fun c9 => absurd c9 (nI_ge hlt hn0)) (fun c9 => ?_)
      refine lv_aload_n hx hb dJ7_fill_53178_10 rfl (lv_at hl 2 rfl) ?_
      refine lv_iload_n hx hb dJ7_fill_53178_11 rfl (lv_at hl 1 rfl) ?_
      refine lv_iload_n hx hb dJ7_fill_53178_12 rfl (lv_at hl 3 rfl) ?_
      refine va_iast hx hb hK.1 hP hD hS 0 0 rfl rfl (vp_in_nI hlt hn0) dJ7_fill_53178_13 (fun H locs hP hD hS => ?_)
      refine lv_iinc (v := nI (i + 1)) (lv' := [(2, .int (nI (i + 1))), (3, .int (nI n0)), (0, .ref h0), (1, .int v)]) hx hb dJ7_fill_53178_14 hl (k := 1) rfl (nI_1 i) (by decide) rfl (fun ls hl => ?_)
      refine lv_goto (tgt := 5) hx hb dJ7_fill_53178_17 (by decide) ?_
      exact ih (i + 1) _ H locs ls (by omega) hP hD hS (lv_sub hl [1, 0, 2, 3] rfl)
  refine lv_iconst (v := 0) hx hb dJ7_fill_53178_0 (by decide) ?_
  refine lv_istore_n (lv' := [(2, .int 0), (0, .ref h0), (1, .int v)]) hx hb dJ7_fill_53178_1 rfl hl (by decide) rfl (fun ls hl => ?_)
  refine lv_aload_n hx hb dJ7_fill_53178_2 rfl (lv_at hl 1 rfl) ?_
  refine va_alen (v := nI n0) hx hb hK.1 hP 0 0 rfl rfl rfl dJ7_fill_53178_3 ?_
  refine lv_istore_n (lv' := [(3, .int (nI n0)), (2, .int 0), (0, .ref h0), (1, .int v)]) hx hb dJ7_fill_53178_4 rfl hl (by decide) rfl (fun ls hl => ?_)
  exact loop n0 0 f _ _ ls (by omega) hP hD hS hl
set_option maxHeartbeats 4000000 in
set_option maxRecDepth 100000 in
theorem k_becomeRow (l : Launch) (D : va_G) (k : Nat → ClassId) (h0 : Nat) (e0 : Nat) (v : Int32) (n : Int32) (sz : Nat) : Met l yX3_becomeRow (.code yX3_becomeRow cX3_becomeRow 3 none :: gx_T) ({ frames := 1, cells := 0, slots := 0, locals := 24 }) (gx_Pre D k [.ref h0, .int v, .int n] ([(h0, .inr (1, [.ref e0, .int 0, .int 0, .int (-1)])), (e0, .inl (k 1, 40, .inr (.inl (fun _ => 0))))]) sz) (gx_Qv D (fun (u : Unit) => True) (fun (u : Unit) => ([] : va_W)) (va_A ([(h0, .inr (1, [.ref e0, .int 0, .int 0, .int (-1)])), (e0, .inl (k 1, 40, .inr (.inl (fun _ => 0))))]) sz)) 0 0 (va_A ([(h0, .inr (1, [.ref e0, .int 0, .int 0, .int (-1)])), (e0, .inl (k 1, 40, .inr (.inl (fun _ => 0))))]) sz) := by
  refine gx_metE (Qc := fun A => gx_Qv D (fun (u : Unit) => True) (fun (u : Unit) => ([] : va_W)) A) (y := yX3_becomeRow) (cc := cX3_becomeRow) (n := 3) (ret := none) (av := [.ref h0, .int v, .int n]) (by decide) (Nat.le_of_ble_eq_true rfl) ?_
  intro p e s m below meth c A ls C hA hP hD hK hS hl
  obtain ⟨hx, hb, hr, hml, hown, hT, hlk, hin⟩ := id C
  have hown : s.vm.findClass RX3 = some m.cls := hown
  have hl : lv_has ls 3 [(0, .ref h0), (1, .int v), (2, .int n)] := hl
  refine lv_aload_n hx hb dX3_becomeRow_0 rfl (lv_at hl 0 rfl) ?_
  refine lv_iload_n hx hb dX3_becomeRow_1 rfl (lv_at hl 1 rfl) ?_
  refine va_put (D := D) (ci := 1) (v := .int v) (ty := .int) (C := RX3) (T := TX3) (N := 4) hx hb hT iw_TX3 tyX3 tyX3_ok nmX3 hown hK.1 hP hD hS 0 rfl rfl 3 (by decide) (hT _ wd_259) (fun _ h9 => h9) rfl (by decide +kernel) rfl rfl (Nat.le_of_ble_eq_true rfl) dX3_becomeRow_2 (fun H locs hP hD hS => ?_)
  have hP : va_P D gx_cl [(h0, .inr (1, [.ref e0, .int 0, .int 0, .int v])), (e0, .inl (k 1, 40, .inr (.inl (fun _ => 0))))] H := hP
  have hD : va_D A [(h0, .inr (1, [.ref e0, .int 0, .int 0, .int v])), (e0, .inl (k 1, 40, .inr (.inl (fun _ => 0))))] := hD
  refine lv_aload_n hx hb dX3_becomeRow_5 rfl (lv_at hl 0 rfl) ?_
  refine lv_iload_n hx hb dX3_becomeRow_6 rfl (lv_at hl 2 rfl) ?_
  refine va_put (D := D) (ci := 1) (v := .int n) (ty := .int) (C := RX3) (T := TX3) (N := 4) hx hb hT iw_TX3 tyX3 tyX3_ok nmX3 hown hK.1 hP hD hS 0 rfl rfl 1 (by decide) (hT _ wd_255) (fun _ h9 => h9) rfl (by decide +kernel) rfl rfl (Nat.le_of_ble_eq_true rfl) dX3_becomeRow_7 (fun H locs hP hD hS => ?_)
  have hP : va_P D gx_cl [(h0, .inr (1, [.ref e0, .int n, .int 0, .int v])), (e0, .inl (k 1, 40, .inr (.inl (fun _ => 0))))] H := hP
  have hD : va_D A [(h0, .inr (1, [.ref e0, .int n, .int 0, .int v])), (e0, .inl (k 1, 40, .inr (.inl (fun _ => 0))))] := hD
  refine lv_aload_n hx hb dX3_becomeRow_10 rfl (lv_at hl 0 rfl) ?_
  refine lv_iconst (v := 0) hx hb dX3_becomeRow_11 (by decide) ?_
  refine va_put (D := D) (ci := 1) (v := .int 0) (ty := .int) (C := RX3) (T := TX3) (N := 4) hx hb hT iw_TX3 tyX3 tyX3_ok nmX3 hown hK.1 hP hD hS 0 rfl rfl 2 (by decide) (hT _ wd_257) (fun _ h9 => h9) rfl (by decide +kernel) rfl rfl (Nat.le_of_ble_eq_true rfl) dX3_becomeRow_12 (fun H locs hP hD hS => ?_)
  have hP : va_P D gx_cl [(h0, .inr (1, [.ref e0, .int n, .int 0, .int v])), (e0, .inl (k 1, 40, .inr (.inl (fun _ => 0))))] H := hP
  have hD : va_D A [(h0, .inr (1, [.ref e0, .int n, .int 0, .int v])), (e0, .inl (k 1, 40, .inr (.inl (fun _ => 0))))] := hD
  refine lv_aload_n hx hb dX3_becomeRow_15 rfl (lv_at hl 0 rfl) ?_
  refine va_get (D := D) (ci := 1) (v := .ref e0) (C := RX3) (T := TX3) (N := 4) hx hb hT iw_TX3 hown hK.1 hP 0 rfl rfl 0 (by decide) (hT _ wd_251) (fun _ h9 => h9) rfl dX3_becomeRow_16 ?_
  refine lv_lconst (v := 0) hx hb dX3_becomeRow_19 (by decide) ?_
  refine gx_ev (wc := ([(e0, .inl (k 1, 40, .inr (.inl (fun _ => 0))))] : va_W)) (wr := [(h0, .inr (1, [.ref e0, .int n, .int 0, .int v]))]) (isC := [1]) (isR := [0]) hP hD hS hA rfl rfl (by decide) (by decide) (gx_runS (na := 2) (As := [.ref e0, .long 0]) (rest := []) C hl.1 hK (gx_subP (wc := ([(e0, .inl (k 1, 40, .inr (.inl (fun _ => 0))))] : va_W)) hP [1] rfl) ((hD.sub (ws' := ([(e0, .inl (k 1, 40, .inr (.inl (fun _ => 0))))] : va_W)) [1] (by decide) rfl).weaken (fun _ _ _ _ => trivial)) (k_fillJ l D k e0 40 (fun _ => 0) 0 (Nat.le_of_ble_eq_true rfl) _) gS_RX3_25 (by decide +kernel) rfl rfl ⟨Nat.le_of_ble_eq_true rfl, Nat.le_of_ble_eq_true rfl⟩ rfl rfl (Nat.le_of_ble_eq_true rfl) dX3_becomeRow_20 ⟨Nat.le_of_ble_eq_true rfl, Nat.le_of_ble_eq_true rfl⟩) (fun u_2 H locs h_3 hP hD hS => ?_)
  obtain ⟨g_1, rfl⟩ : ∃ z, z = u_2 := ⟨_, rfl⟩
  have hP : va_P D gx_cl [(h0, .inr (1, [.ref e0, .int n, .int 0, .int v])), (e0, .inl (k 1, 40, .inr (.inl g_1)))] H := hP
  have hD : va_D A [(h0, .inr (1, [.ref e0, .int n, .int 0, .int v])), (e0, .inl (k 1, 40, .inr (.inl g_1)))] := hD
  exact gx_retV C (u := ()) gx_nil gx_noneD hS (trivial) dX3_becomeRow_23
set_option maxHeartbeats 4000000 in
set_option maxRecDepth 100000 in
theorem k_becomeRule (l : Launch) (D : va_G) (k : Nat → ClassId) (h0 : Nat) (e0 : Nat) (v : Int32) (n : Int32) (sz : Nat) : Met l yX3_becomeRule (.code yX3_becomeRule cX3_becomeRule 3 none :: gx_T) ({ frames := 0, cells := 0, slots := 0, locals := 0 }) (gx_Pre D k [.ref h0, .int v, .int n] ([(h0, .inr (1, [.ref e0, .int 0, .int 0, .int (-1)]))]) sz) (gx_Qv D (fun (u : Unit) => True) (fun (u : Unit) => ([] : va_W)) (va_A ([(h0, .inr (1, [.ref e0, .int 0, .int 0, .int (-1)]))]) sz)) 0 0 (va_A ([(h0, .inr (1, [.ref e0, .int 0, .int 0, .int (-1)]))]) sz) := by
  refine gx_metE (Qc := fun A => gx_Qv D (fun (u : Unit) => True) (fun (u : Unit) => ([] : va_W)) A) (y := yX3_becomeRule) (cc := cX3_becomeRule) (n := 3) (ret := none) (av := [.ref h0, .int v, .int n]) (by decide) (Nat.le_of_ble_eq_true rfl) ?_
  intro p e s m below meth c A ls C hA hP hD hK hS hl
  obtain ⟨hx, hb, hr, hml, hown, hT, hlk, hin⟩ := id C
  have hown : s.vm.findClass RX3 = some m.cls := hown
  have hl : lv_has ls 3 [(0, .ref h0), (1, .int v), (2, .int n)] := hl
  refine lv_aload_n hx hb dX3_becomeRule_0 rfl (lv_at hl 0 rfl) ?_
  refine lv_bipush (v := 10) hx hb dX3_becomeRule_1 (by decide) ?_
  refine lv_iload_n hx hb dX3_becomeRule_3 rfl (lv_at hl 1 rfl) ?_
  refine lv_iadd hx hb dX3_becomeRule_4 ?_
  refine va_put (D := D) (ci := 1) (v := .int ((10 : Int32) + v)) (ty := .int) (C := RX3) (T := TX3) (N := 4) hx hb hT iw_TX3 tyX3 tyX3_ok nmX3 hown hK.1 hP hD hS 0 rfl rfl 3 (by decide) (hT _ wd_259) (fun _ h9 => h9) rfl (by decide +kernel) rfl rfl (Nat.le_of_ble_eq_true rfl) dX3_becomeRule_5 (fun H locs hP hD hS => ?_)
  have hP : va_P D gx_cl [(h0, .inr (1, [.ref e0, .int 0, .int 0, .int ((10 : Int32) + v)]))] H := hP
  have hD : va_D A [(h0, .inr (1, [.ref e0, .int 0, .int 0, .int ((10 : Int32) + v)]))] := hD
  refine lv_aload_n hx hb dX3_becomeRule_8 rfl (lv_at hl 0 rfl) ?_
  refine lv_iconst (v := 0) hx hb dX3_becomeRule_9 (by decide) ?_
  refine va_put (D := D) (ci := 1) (v := .int 0) (ty := .int) (C := RX3) (T := TX3) (N := 4) hx hb hT iw_TX3 tyX3 tyX3_ok nmX3 hown hK.1 hP hD hS 0 rfl rfl 1 (by decide) (hT _ wd_255) (fun _ h9 => h9) rfl (by decide +kernel) rfl rfl (Nat.le_of_ble_eq_true rfl) dX3_becomeRule_10 (fun H locs hP hD hS => ?_)
  have hP : va_P D gx_cl [(h0, .inr (1, [.ref e0, .int 0, .int 0, .int ((10 : Int32) + v)]))] H := hP
  have hD : va_D A [(h0, .inr (1, [.ref e0, .int 0, .int 0, .int ((10 : Int32) + v)]))] := hD
  refine lv_aload_n hx hb dX3_becomeRule_13 rfl (lv_at hl 0 rfl) ?_
  refine lv_iload_n hx hb dX3_becomeRule_14 rfl (lv_at hl 2 rfl) ?_
  refine va_put (D := D) (ci := 1) (v := .int n) (ty := .int) (C := RX3) (T := TX3) (N := 4) hx hb hT iw_TX3 tyX3 tyX3_ok nmX3 hown hK.1 hP hD hS 0 rfl rfl 2 (by decide) (hT _ wd_257) (fun _ h9 => h9) rfl (by decide +kernel) rfl rfl (Nat.le_of_ble_eq_true rfl) dX3_becomeRule_15 (fun H locs hP hD hS => ?_)
  have hP : va_P D gx_cl [(h0, .inr (1, [.ref e0, .int 0, .int n, .int ((10 : Int32) + v)]))] H := hP
  have hD : va_D A [(h0, .inr (1, [.ref e0, .int 0, .int n, .int ((10 : Int32) + v)]))] := hD
  exact gx_retV C (u := ()) gx_nil gx_noneD hS (trivial) dX3_becomeRule_18
set_option maxHeartbeats 4000000 in
set_option maxRecDepth 100000 in
theorem k_build (l : Launch) (D : va_G) (k : Nat → ClassId) (h0 : Nat) (a0 : Nat) (a1 : Nat) (a2 : Nat) (a3 : Nat) (a4 : Nat) (a5 : Nat) (a6 : Nat) (a7 : Nat) (a8 : Nat) (x : Int32) (y : Int32) (mi : Int32) (z : Int32) (sz : Nat) : Met l yX1_build (.code yX1_build cX1_build 6 (some .int) :: gx_T) ({ frames := 0, cells := 0, slots := 0, locals := 0 }) (gx_Pre D k [.ref h0, .int x, .int y, .int mi, .int z] ([(h0, .inr (0, [.ref a0, .ref a1, .ref a2, .ref a3, .ref a4, .ref a5, .ref a6, .ref a7, .ref a8, .int 0, .int 0, .int 0, .int 0, .int 1, .int 0, .int 0, .int 0])), (a0, .inl (k 0, 16, .inl (fun _ => 0))), (a1, .inl (k 0, 16, .inl (fun _ => 0))), (a2, .inl (k 0, 16, .inl (fun _ => 0))), (a3, .inl (k 0, 16, .inl (fun _ => 0)))]) sz) (gx_Qi D (fun (r : Int32) (u : Unit) => r = 0) (fun (u : Unit) => ([] : va_W)) (va_A ([(h0, .inr (0, [.ref a0, .ref a1, .ref a2, .ref a3, .ref a4, .ref a5, .ref a6, .ref a7, .ref a8, .int 0, .int 0, .int 0, .int 0, .int 1, .int 0, .int 0, .int 0])), (a0, .inl (k 0, 16, .inl (fun _ => 0))), (a1, .inl (k 0, 16, .inl (fun _ => 0))), (a2, .inl (k 0, 16, .inl (fun _ => 0))), (a3, .inl (k 0, 16, .inl (fun _ => 0)))]) sz)) 0 0 (va_A ([(h0, .inr (0, [.ref a0, .ref a1, .ref a2, .ref a3, .ref a4, .ref a5, .ref a6, .ref a7, .ref a8, .int 0, .int 0, .int 0, .int 0, .int 1, .int 0, .int 0, .int 0])), (a0, .inl (k 0, 16, .inl (fun _ => 0))), (a1, .inl (k 0, 16, .inl (fun _ => 0))), (a2, .inl (k 0, 16, .inl (fun _ => 0))), (a3, .inl (k 0, 16, .inl (fun _ => 0)))]) sz) := by
  refine gx_metE (Qc := fun A => gx_Qi D (fun (r : Int32) (u : Unit) => r = 0) (fun (u : Unit) => ([] : va_W)) A) (y := yX1_build) (cc := cX1_build) (n := 6) (ret := (some .int)) (av := [.ref h0, .int x, .int y, .int mi, .int z]) (by decide) (Nat.le_of_ble_eq_true rfl) ?_
  intro p e s m below meth c A ls C hA hP hD hK hS hl
  obtain ⟨hx, hb, hr, hml, hown, hT, hlk, hin⟩ := id C
  have hown : s.vm.findClass RX1 = some m.cls := hown
  have hl : lv_has ls 6 [(0, .ref h0), (1, .int x), (2, .int y), (3, .int mi), (4, .int z)] := hl
  refine lv_aload_n hx hb dX1_build_0 rfl (lv_at hl 0 rfl) ?_
  refine va_get (D := D) (ci := 0) (v := .int 0) (C := RX1) (T := TX1) (N := 17) hx hb hT iw_TX1 hown hK.1 hP 0 rfl rfl 9 (by decide) (hT _ wd_132) (fun _ h9 => h9) rfl dX1_build_1 ?_
  refine lv_istore (lv' := [(5, .int 0), (0, .ref h0), (1, .int x), (2, .int y), (3, .int mi), (4, .int z)]) hx hb dX1_build_4 hl (by decide) rfl (fun ls hl => ?_)
  refine lv_aload_n hx hb dX1_build_6 rfl (lv_at hl 1 rfl) ?_
  refine va_get (D := D) (ci := 0) (v := .ref a0) (C := RX1) (T := TX1) (N := 17) hx hb hT iw_TX1 hown hK.1 hP 0 rfl rfl 0 (by decide) (hT _ wd_102) (fun _ h9 => h9) rfl dX1_build_7 ?_
  refine lv_iload hx hb dX1_build_10 (lv_at hl 0 rfl) ?_
  refine lv_iload_n hx hb dX1_build_12 rfl (lv_at hl 2 rfl) ?_
  refine va_iast hx hb hK.1 hP hD hS 1 0 rfl rfl (gx_vin rfl) dX1_build_13 (fun H locs hP hD hS => ?_)
  obtain ⟨f_1, ef_1⟩ : ∃ f9, f9 = upd ((fun _ => 0) : Nat → Int32) (0 : Int32).toNatClampNeg (x : Int32) := ⟨_, rfl⟩
  have hP : va_P D gx_cl [(h0, .inr (0, [.ref a0, .ref a1, .ref a2, .ref a3, .ref a4, .ref a5, .ref a6, .ref a7, .ref a8, .int 0, .int 0, .int 0, .int 0, .int 1, .int 0, .int 0, .int 0])), (a0, .inl (k 0, 16, .inl f_1)), (a1, .inl (k 0, 16, .inl (fun _ => 0))), (a2, .inl (k 0, 16, .inl (fun _ => 0))), (a3, .inl (k 0, 16, .inl (fun _ => 0)))] H := by subst ef_1; exact hP
  have hD : va_D A [(h0, .inr (0, [.ref a0, .ref a1, .ref a2, .ref a3, .ref a4, .ref a5, .ref a6, .ref a7, .ref a8, .int 0, .int 0, .int 0, .int 0, .int 1, .int 0, .int 0, .int 0])), (a0, .inl (k 0, 16, .inl f_1)), (a1, .inl (k 0, 16, .inl (fun _ => 0))), (a2, .inl (k 0, 16, .inl (fun _ => 0))), (a3, .inl (k 0, 16, .inl (fun _ => 0)))] := by subst ef_1; exact hD
  refine lv_aload_n hx hb dX1_build_14 rfl (lv_at hl 1 rfl) ?_
  refine va_get (D := D) (ci := 0) (v := .ref a1) (C := RX1) (T := TX1) (N := 17) hx hb hT iw_TX1 hown hK.1 hP 0 rfl rfl 1 (by decide) (hT _ wd_106) (fun _ h9 => h9) rfl dX1_build_15 ?_
  refine lv_iload hx hb dX1_build_18 (lv_at hl 0 rfl) ?_
  refine lv_iload_n hx hb dX1_build_20 rfl (lv_at hl 3 rfl) ?_
  refine va_iast hx hb hK.1 hP hD hS 2 0 rfl rfl (gx_vin rfl) dX1_build_21 (fun H locs hP hD hS => ?_)
  obtain ⟨f_2, ef_2⟩ : ∃ f9, f9 = upd ((fun _ => 0) : Nat → Int32) (0 : Int32).toNatClampNeg (y : Int32) := ⟨_, rfl⟩
  have hP : va_P D gx_cl [(h0, .inr (0, [.ref a0, .ref a1, .ref a2, .ref a3, .ref a4, .ref a5, .ref a6, .ref a7, .ref a8, .int 0, .int 0, .int 0, .int 0, .int 1, .int 0, .int 0, .int 0])), (a0, .inl (k 0, 16, .inl f_1)), (a1, .inl (k 0, 16, .inl f_2)), (a2, .inl (k 0, 16, .inl (fun _ => 0))), (a3, .inl (k 0, 16, .inl (fun _ => 0)))] H := by subst ef_2; exact hP
  have hD : va_D A [(h0, .inr (0, [.ref a0, .ref a1, .ref a2, .ref a3, .ref a4, .ref a5, .ref a6, .ref a7, .ref a8, .int 0, .int 0, .int 0, .int 0, .int 1, .int 0, .int 0, .int 0])), (a0, .inl (k 0, 16, .inl f_1)), (a1, .inl (k 0, 16, .inl f_2)), (a2, .inl (k 0, 16, .inl (fun _ => 0))), (a3, .inl (k 0, 16, .inl (fun _ => 0)))] := by subst ef_2; exact hD
  refine lv_aload_n hx hb dX1_build_22 rfl (lv_at hl 1 rfl) ?_
  refine va_get (D := D) (ci := 0) (v := .ref a2) (C := RX1) (T := TX1) (N := 17) hx hb hT iw_TX1 hown hK.1 hP 0 rfl rfl 2 (by decide) (hT _ wd_110) (fun _ h9 => h9) rfl dX1_build_23 ?_
  refine lv_iload hx hb dX1_build_26 (lv_at hl 0 rfl) ?_
  refine lv_iconst (v := 1) hx hb dX1_build_28 (by decide) ?_
  refine lv_iload_n hx hb dX1_build_29 rfl (lv_at hl 2 rfl) ?_
  refine lv_ishl hx hb dX1_build_30 ?_
  refine lv_iconst (v := 1) hx hb dX1_build_31 (by decide) ?_
  refine lv_iload_n hx hb dX1_build_32 rfl (lv_at hl 3 rfl) ?_
  refine lv_ishl hx hb dX1_build_33 ?_
  refine lv_ior hx hb dX1_build_34 ?_
  refine va_iast hx hb hK.1 hP hD hS 3 0 rfl rfl (gx_vin rfl) dX1_build_35 (fun H locs hP hD hS => ?_)
  obtain ⟨f_3, ef_3⟩ : ∃ f9, f9 = upd ((fun _ => 0) : Nat → Int32) (0 : Int32).toNatClampNeg ((((1 : Int32) <<< (x &&& 31)) ||| ((1 : Int32) <<< (y &&& 31))) : Int32) := ⟨_, rfl⟩
  have hP : va_P D gx_cl [(h0, .inr (0, [.ref a0, .ref a1, .ref a2, .ref a3, .ref a4, .ref a5, .ref a6, .ref a7, .ref a8, .int 0, .int 0, .int 0, .int 0, .int 1, .int 0, .int 0, .int 0])), (a0, .inl (k 0, 16, .inl f_1)), (a1, .inl (k 0, 16, .inl f_2)), (a2, .inl (k 0, 16, .inl f_3)), (a3, .inl (k 0, 16, .inl (fun _ => 0)))] H := by subst ef_3; exact hP
  have hD : va_D A [(h0, .inr (0, [.ref a0, .ref a1, .ref a2, .ref a3, .ref a4, .ref a5, .ref a6, .ref a7, .ref a8, .int 0, .int 0, .int 0, .int 0, .int 1, .int 0, .int 0, .int 0])), (a0, .inl (k 0, 16, .inl f_1)), (a1, .inl (k 0, 16, .inl f_2)), (a2, .inl (k 0, 16, .inl f_3)), (a3, .inl (k 0, 16, .inl (fun _ => 0)))] := by subst ef_3; exact hD
  refine lv_aload_n hx hb dX1_build_36 rfl (lv_at hl 1 rfl) ?_
  refine va_get (D := D) (ci := 0) (v := .ref a3) (C := RX1) (T := TX1) (N := 17) hx hb hT iw_TX1 hown hK.1 hP 0 rfl rfl 3 (by decide) (hT _ wd_113) (fun _ h9 => h9) rfl dX1_build_37 ?_
  refine lv_iload hx hb dX1_build_40 (lv_at hl 0 rfl) ?_
  refine lv_iload_n hx hb dX1_build_42 rfl (lv_at hl 4 rfl) ?_
  refine va_iast hx hb hK.1 hP hD hS 4 0 rfl rfl (gx_vin rfl) dX1_build_43 (fun H locs hP hD hS => ?_)
  obtain ⟨f_4, ef_4⟩ : ∃ f9, f9 = upd ((fun _ => 0) : Nat → Int32) (0 : Int32).toNatClampNeg (mi : Int32) := ⟨_, rfl⟩
  have hP : va_P D gx_cl [(h0, .inr (0, [.ref a0, .ref a1, .ref a2, .ref a3, .ref a4, .ref a5, .ref a6, .ref a7, .ref a8, .int 0, .int 0, .int 0, .int 0, .int 1, .int 0, .int 0, .int 0])), (a0, .inl (k 0, 16, .inl f_1)), (a1, .inl (k 0, 16, .inl f_2)), (a2, .inl (k 0, 16, .inl f_3)), (a3, .inl (k 0, 16, .inl f_4))] H := by subst ef_4; exact hP
  have hD : va_D A [(h0, .inr (0, [.ref a0, .ref a1, .ref a2, .ref a3, .ref a4, .ref a5, .ref a6, .ref a7, .ref a8, .int 0, .int 0, .int 0, .int 0, .int 1, .int 0, .int 0, .int 0])), (a0, .inl (k 0, 16, .inl f_1)), (a1, .inl (k 0, 16, .inl f_2)), (a2, .inl (k 0, 16, .inl f_3)), (a3, .inl (k 0, 16, .inl f_4))] := by subst ef_4; exact hD
  refine lv_iload hx hb dX1_build_44 (lv_at hl 5 rfl) ?_
  refine lv_if_eq (tgt := 62) hx hb dX1_build_46 (by decide) (fun c_5 => ?_) (fun c_5 => ?_)
  · refine lv_aload_n hx hb dX1_build_62 rfl (lv_at hl 1 rfl) ?_
    refine lv_dup hx hb dX1_build_63 rfl ?_
    refine va_get (D := D) (ci := 0) (v := .int 0) (C := RX1) (T := TX1) (N := 17) hx hb hT iw_TX1 hown hK.1 hP 0 rfl rfl 9 (by decide) (hT _ wd_132) (fun _ h9 => h9) rfl dX1_build_64 ?_
    refine lv_iconst (v := 1) hx hb dX1_build_67 (by decide) ?_
    refine lv_iadd hx hb dX1_build_68 ?_
    refine gx_cst (v := 1) (by decide) ?_
    refine va_put (D := D) (ci := 0) (v := .int 1) (ty := .int) (C := RX1) (T := TX1) (N := 17) hx hb hT iw_TX1 tyX1 tyX1_ok nmX1 hown hK.1 hP hD hS 0 rfl rfl 9 (by decide) (hT _ wd_132) (fun _ h9 => h9) rfl (by decide +kernel) rfl rfl (Nat.le_of_ble_eq_true rfl) dX1_build_69 (fun H locs hP hD hS => ?_)
    have hP : va_P D gx_cl [(h0, .inr (0, [.ref a0, .ref a1, .ref a2, .ref a3, .ref a4, .ref a5, .ref a6, .ref a7, .ref a8, .int 1, .int 0, .int 0, .int 0, .int 1, .int 0, .int 0, .int 0])), (a0, .inl (k 0, 16, .inl f_1)), (a1, .inl (k 0, 16, .inl f_2)), (a2, .inl (k 0, 16, .inl f_3)), (a3, .inl (k 0, 16, .inl f_4))] H := hP
    have hD : va_D A [(h0, .inr (0, [.ref a0, .ref a1, .ref a2, .ref a3, .ref a4, .ref a5, .ref a6, .ref a7, .ref a8, .int 1, .int 0, .int 0, .int 0, .int 1, .int 0, .int 0, .int 0])), (a0, .inl (k 0, 16, .inl f_1)), (a1, .inl (k 0, 16, .inl f_2)), (a2, .inl (k 0, 16, .inl f_3)), (a3, .inl (k 0, 16, .inl f_4))] := hD
    refine lv_iload hx hb dX1_build_72 (lv_at hl 0 rfl) ?_
    exact gx_retI C (u := ()) gx_nil gx_noneD hS (rfl) dX1_build_74
  · refine lv_aload_n hx hb dX1_build_49 rfl (lv_at hl 1 rfl) ?_
    refine lv_dup hx hb dX1_build_50 rfl ?_
    refine va_get (D := D) (ci := 0) (v := .int 0) (C := RX1) (T := TX1) (N := 17) hx hb hT iw_TX1 hown hK.1 hP 0 rfl rfl 15 (by decide) (hT _ wd_149) (fun _ h9 => h9) rfl dX1_build_51 ?_
    refine lv_iconst (v := 1) hx hb dX1_build_54 (by decide) ?_
    refine lv_iload hx hb dX1_build_55 (lv_at hl 0 rfl) ?_
    refine lv_ishl hx hb dX1_build_57 ?_
    refine gx_cst (v := 1) (by decide) ?_
    refine lv_ior hx hb dX1_build_58 ?_
    refine gx_cst (v := 1) (by decide) ?_
    refine va_put (D := D) (ci := 0) (v := .int 1) (ty := .int) (C := RX1) (T := TX1) (N := 17) hx hb hT iw_TX1 tyX1 tyX1_ok nmX1 hown hK.1 hP hD hS 0 rfl rfl 15 (by decide) (hT _ wd_149) (fun _ h9 => h9) rfl (by decide +kernel) rfl rfl (Nat.le_of_ble_eq_true rfl) dX1_build_59 (fun H locs hP hD hS => ?_)
    have hP : va_P D gx_cl [(h0, .inr (0, [.ref a0, .ref a1, .ref a2, .ref a3, .ref a4, .ref a5, .ref a6, .ref a7, .ref a8, .int 0, .int 0, .int 0, .int 0, .int 1, .int 0, .int 1, .int 0])), (a0, .inl (k 0, 16, .inl f_1)), (a1, .inl (k 0, 16, .inl f_2)), (a2, .inl (k 0, 16, .inl f_3)), (a3, .inl (k 0, 16, .inl f_4))] H := hP
    have hD : va_D A [(h0, .inr (0, [.ref a0, .ref a1, .ref a2, .ref a3, .ref a4, .ref a5, .ref a6, .ref a7, .ref a8, .int 0, .int 0, .int 0, .int 0, .int 1, .int 0, .int 1, .int 0])), (a0, .inl (k 0, 16, .inl f_1)), (a1, .inl (k 0, 16, .inl f_2)), (a2, .inl (k 0, 16, .inl f_3)), (a3, .inl (k 0, 16, .inl f_4))] := hD
    refine lv_aload_n hx hb dX1_build_62 rfl (lv_at hl 1 rfl) ?_
    refine lv_dup hx hb dX1_build_63 rfl ?_
    refine va_get (D := D) (ci := 0) (v := .int 0) (C := RX1) (T := TX1) (N := 17) hx hb hT iw_TX1 hown hK.1 hP 0 rfl rfl 9 (by decide) (hT _ wd_132) (fun _ h9 => h9) rfl dX1_build_64 ?_
    refine lv_iconst (v := 1) hx hb dX1_build_67 (by decide) ?_
    refine lv_iadd hx hb dX1_build_68 ?_
    refine gx_cst (v := 1) (by decide) ?_
    refine va_put (D := D) (ci := 0) (v := .int 1) (ty := .int) (C := RX1) (T := TX1) (N := 17) hx hb hT iw_TX1 tyX1 tyX1_ok nmX1 hown hK.1 hP hD hS 0 rfl rfl 9 (by decide) (hT _ wd_132) (fun _ h9 => h9) rfl (by decide +kernel) rfl rfl (Nat.le_of_ble_eq_true rfl) dX1_build_69 (fun H locs hP hD hS => ?_)
    have hP : va_P D gx_cl [(h0, .inr (0, [.ref a0, .ref a1, .ref a2, .ref a3, .ref a4, .ref a5, .ref a6, .ref a7, .ref a8, .int 1, .int 0, .int 0, .int 0, .int 1, .int 0, .int 1, .int 0])), (a0, .inl (k 0, 16, .inl f_1)), (a1, .inl (k 0, 16, .inl f_2)), (a2, .inl (k 0, 16, .inl f_3)), (a3, .inl (k 0, 16, .inl f_4))] H := hP
    have hD : va_D A [(h0, .inr (0, [.ref a0, .ref a1, .ref a2, .ref a3, .ref a4, .ref a5, .ref a6, .ref a7, .ref a8, .int 1, .int 0, .int 0, .int 0, .int 1, .int 0, .int 1, .int 0])), (a0, .inl (k 0, 16, .inl f_1)), (a1, .inl (k 0, 16, .inl f_2)), (a2, .inl (k 0, 16, .inl f_3)), (a3, .inl (k 0, 16, .inl f_4))] := hD
    refine lv_iload hx hb dX1_build_72 (lv_at hl 0 rfl) ?_
    exact gx_retI C (u := ()) gx_nil gx_noneD hS (rfl) dX1_build_74
set_option maxHeartbeats 4000000 in
set_option maxRecDepth 100000 in
theorem k_put (l : Launch) (D : va_G) (k : Nat → ClassId) (h0 : Nat) (a0 : Nat) (a1 : Nat) (a2 : Nat) (a3 : Nat) (a4 : Nat) (a5 : Nat) (a6 : Nat) (a7 : Nat) (a8 : Nat) (x : Int32) (sz : Nat) : Met l yX1_put (.code yX1_put cX1_put 3 none :: gx_T) ({ frames := 0, cells := 0, slots := 0, locals := 0 }) (gx_Pre D k [.ref h0, .int 0, .int x] ([(h0, .inr (0, [.ref a0, .ref a1, .ref a2, .ref a3, .ref a4, .ref a5, .ref a6, .ref a7, .ref a8, .int 0, .int 1, .int 0, .int 0, .int 1, .int 0, .int 0, .int 0])), (a5, .inl (k 0, 6, .inl (fun _ => 0))), (a6, .inl (k 0, 6, .inl (fun _ => 0)))]) sz) (gx_Qv D (fun (u : Unit) => True) (fun (u : Unit) => ([] : va_W)) (va_A ([(h0, .inr (0, [.ref a0, .ref a1, .ref a2, .ref a3, .ref a4, .ref a5, .ref a6, .ref a7, .ref a8, .int 0, .int 1, .int 0, .int 0, .int 1, .int 0, .int 0, .int 0])), (a5, .inl (k 0, 6, .inl (fun _ => 0))), (a6, .inl (k 0, 6, .inl (fun _ => 0)))]) sz)) 0 0 (va_A ([(h0, .inr (0, [.ref a0, .ref a1, .ref a2, .ref a3, .ref a4, .ref a5, .ref a6, .ref a7, .ref a8, .int 0, .int 1, .int 0, .int 0, .int 1, .int 0, .int 0, .int 0])), (a5, .inl (k 0, 6, .inl (fun _ => 0))), (a6, .inl (k 0, 6, .inl (fun _ => 0)))]) sz) := by
  refine gx_metE (Qc := fun A => gx_Qv D (fun (u : Unit) => True) (fun (u : Unit) => ([] : va_W)) A) (y := yX1_put) (cc := cX1_put) (n := 3) (ret := none) (av := [.ref h0, .int 0, .int x]) (by decide) (Nat.le_of_ble_eq_true rfl) ?_
  intro p e s m below meth c A ls C hA hP hD hK hS hl
  obtain ⟨hx, hb, hr, hml, hown, hT, hlk, hin⟩ := id C
  have hown : s.vm.findClass RX1 = some m.cls := hown
  have hl : lv_has ls 3 [(0, .ref h0), (1, .int 0), (2, .int x)] := hl
  refine lv_aload_n hx hb dX1_put_0 rfl (lv_at hl 0 rfl) ?_
  refine va_get (D := D) (ci := 0) (v := .ref a5) (C := RX1) (T := TX1) (N := 17) hx hb hT iw_TX1 hown hK.1 hP 0 rfl rfl 5 (by decide) (hT _ wd_121) (fun _ h9 => h9) rfl dX1_put_1 ?_
  refine lv_iload_n hx hb dX1_put_4 rfl (lv_at hl 1 rfl) ?_
  refine lv_iload_n hx hb dX1_put_5 rfl (lv_at hl 2 rfl) ?_
  refine va_iast hx hb hK.1 hP hD hS 1 0 rfl rfl (gx_vin rfl) dX1_put_6 (fun H locs hP hD hS => ?_)
  obtain ⟨f_1, ef_1⟩ : ∃ f9, f9 = upd ((fun _ => 0) : Nat → Int32) (0 : Int32).toNatClampNeg (x : Int32) := ⟨_, rfl⟩
  have hP : va_P D gx_cl [(h0, .inr (0, [.ref a0, .ref a1, .ref a2, .ref a3, .ref a4, .ref a5, .ref a6, .ref a7, .ref a8, .int 0, .int 1, .int 0, .int 0, .int 1, .int 0, .int 0, .int 0])), (a5, .inl (k 0, 6, .inl f_1)), (a6, .inl (k 0, 6, .inl (fun _ => 0)))] H := by subst ef_1; exact hP
  have hD : va_D A [(h0, .inr (0, [.ref a0, .ref a1, .ref a2, .ref a3, .ref a4, .ref a5, .ref a6, .ref a7, .ref a8, .int 0, .int 1, .int 0, .int 0, .int 1, .int 0, .int 0, .int 0])), (a5, .inl (k 0, 6, .inl f_1)), (a6, .inl (k 0, 6, .inl (fun _ => 0)))] := by subst ef_1; exact hD
  refine lv_aload_n hx hb dX1_put_7 rfl (lv_at hl 0 rfl) ?_
  refine va_get (D := D) (ci := 0) (v := .ref a6) (C := RX1) (T := TX1) (N := 17) hx hb hT iw_TX1 hown hK.1 hP 0 rfl rfl 6 (by decide) (hT _ wd_124) (fun _ h9 => h9) rfl dX1_put_8 ?_
  refine lv_iload_n hx hb dX1_put_11 rfl (lv_at hl 1 rfl) ?_
  refine lv_dup2_11 hx hb dX1_put_12 rfl rfl ?_
  refine va_iald hx hb hK.1 hP 2 0 rfl rfl (gx_vin rfl) dX1_put_13 ?_
  refine gx_cst (v := 0) (rfl) ?_
  refine lv_iconst (v := 1) hx hb dX1_put_14 (by decide) ?_
  refine lv_iload_n hx hb dX1_put_15 rfl (lv_at hl 2 rfl) ?_
  refine lv_ishl hx hb dX1_put_16 ?_
  refine lv_ior hx hb dX1_put_17 ?_
  refine va_iast hx hb hK.1 hP hD hS 2 0 rfl rfl (gx_vin rfl) dX1_put_18 (fun H locs hP hD hS => ?_)
  obtain ⟨f_2, ef_2⟩ : ∃ f9, f9 = upd ((fun _ => 0) : Nat → Int32) (0 : Int32).toNatClampNeg (((0 : Int32) ||| ((1 : Int32) <<< (x &&& 31))) : Int32) := ⟨_, rfl⟩
  have hP : va_P D gx_cl [(h0, .inr (0, [.ref a0, .ref a1, .ref a2, .ref a3, .ref a4, .ref a5, .ref a6, .ref a7, .ref a8, .int 0, .int 1, .int 0, .int 0, .int 1, .int 0, .int 0, .int 0])), (a5, .inl (k 0, 6, .inl f_1)), (a6, .inl (k 0, 6, .inl f_2))] H := by subst ef_2; exact hP
  have hD : va_D A [(h0, .inr (0, [.ref a0, .ref a1, .ref a2, .ref a3, .ref a4, .ref a5, .ref a6, .ref a7, .ref a8, .int 0, .int 1, .int 0, .int 0, .int 1, .int 0, .int 0, .int 0])), (a5, .inl (k 0, 6, .inl f_1)), (a6, .inl (k 0, 6, .inl f_2))] := by subst ef_2; exact hD
  exact gx_retV C (u := ()) gx_nil gx_noneD hS (trivial) dX1_put_19
set_option maxHeartbeats 4000000 in
set_option maxRecDepth 100000 in
theorem k_settle (l : Launch) (D : va_G) (k : Nat → ClassId) (h0 : Nat) (a0 : Nat) (a1 : Nat) (a2 : Nat) (a3 : Nat) (a4 : Nat) (a5 : Nat) (a6 : Nat) (a7 : Nat) (a8 : Nat) (x : Int32) (sz : Nat) : Met l yX1_settle (.code yX1_settle cX1_settle 3 (some .int) :: gx_T) ({ frames := 1, cells := 0, slots := 0, locals := 22 }) (gx_Pre D k [.ref h0, .int x] ([(h0, .inr (0, [.ref a0, .ref a1, .ref a2, .ref a3, .ref a4, .ref a5, .ref a6, .ref a7, .ref a8, .int 0, .int 0, .int 0, .int 0, .int 1, .int 0, .int 0, .int 0])), (a4, .inl (k 0, 6, .inl (fun _ => 0))), (a5, .inl (k 0, 6, .inl (fun _ => 0))), (a6, .inl (k 0, 6, .inl (fun _ => 0)))]) sz) (gx_Qi D (fun (r : Int32) (u : Unit) => r = 0) (fun (u : Unit) => ([] : va_W)) (va_A ([(h0, .inr (0, [.ref a0, .ref a1, .ref a2, .ref a3, .ref a4, .ref a5, .ref a6, .ref a7, .ref a8, .int 0, .int 0, .int 0, .int 0, .int 1, .int 0, .int 0, .int 0])), (a4, .inl (k 0, 6, .inl (fun _ => 0))), (a5, .inl (k 0, 6, .inl (fun _ => 0))), (a6, .inl (k 0, 6, .inl (fun _ => 0)))]) sz)) 0 0 (va_A ([(h0, .inr (0, [.ref a0, .ref a1, .ref a2, .ref a3, .ref a4, .ref a5, .ref a6, .ref a7, .ref a8, .int 0, .int 0, .int 0, .int 0, .int 1, .int 0, .int 0, .int 0])), (a4, .inl (k 0, 6, .inl (fun _ => 0))), (a5, .inl (k 0, 6, .inl (fun _ => 0))), (a6, .inl (k 0, 6, .inl (fun _ => 0)))]) sz) := by
  refine gx_metE (Qc := fun A => gx_Qi D (fun (r : Int32) (u : Unit) => r = 0) (fun (u : Unit) => ([] : va_W)) A) (y := yX1_settle) (cc := cX1_settle) (n := 3) (ret := (some .int)) (av := [.ref h0, .int x]) (by decide) (Nat.le_of_ble_eq_true rfl) ?_
  intro p e s m below meth c A ls C hA hP hD hK hS hl
  obtain ⟨hx, hb, hr, hml, hown, hT, hlk, hin⟩ := id C
  have hown : s.vm.findClass RX1 = some m.cls := hown
  have hl : lv_has ls 3 [(0, .ref h0), (1, .int x)] := hl
  refine lv_aload_n hx hb dX1_settle_0 rfl (lv_at hl 0 rfl) ?_
  refine va_get (D := D) (ci := 0) (v := .int 0) (C := RX1) (T := TX1) (N := 17) hx hb hT iw_TX1 hown hK.1 hP 0 rfl rfl 10 (by decide) (hT _ wd_136) (fun _ h9 => h9) rfl dX1_settle_1 ?_
  refine lv_istore_n (lv' := [(2, .int 0), (0, .ref h0), (1, .int x)]) hx hb dX1_settle_4 rfl hl (by decide) rfl (fun ls hl => ?_)
  refine lv_aload_n hx hb dX1_settle_5 rfl (lv_at hl 1 rfl) ?_
  refine va_get (D := D) (ci := 0) (v := .ref a4) (C := RX1) (T := TX1) (N := 17) hx hb hT iw_TX1 hown hK.1 hP 0 rfl rfl 4 (by decide) (hT _ wd_118) (fun _ h9 => h9) rfl dX1_settle_6 ?_
  refine lv_iload_n hx hb dX1_settle_9 rfl (lv_at hl 0 rfl) ?_
  refine lv_iload_n hx hb dX1_settle_10 rfl (lv_at hl 2 rfl) ?_
  refine va_iast hx hb hK.1 hP hD hS 1 0 rfl rfl (gx_vin rfl) dX1_settle_11 (fun H locs hP hD hS => ?_)
  obtain ⟨f_1, ef_1⟩ : ∃ f9, f9 = upd ((fun _ => 0) : Nat → Int32) (0 : Int32).toNatClampNeg (x : Int32) := ⟨_, rfl⟩
  have hP : va_P D gx_cl [(h0, .inr (0, [.ref a0, .ref a1, .ref a2, .ref a3, .ref a4, .ref a5, .ref a6, .ref a7, .ref a8, .int 0, .int 0, .int 0, .int 0, .int 1, .int 0, .int 0, .int 0])), (a4, .inl (k 0, 6, .inl f_1)), (a5, .inl (k 0, 6, .inl (fun _ => 0))), (a6, .inl (k 0, 6, .inl (fun _ => 0)))] H := by subst ef_1; exact hP
  have hD : va_D A [(h0, .inr (0, [.ref a0, .ref a1, .ref a2, .ref a3, .ref a4, .ref a5, .ref a6, .ref a7, .ref a8, .int 0, .int 0, .int 0, .int 0, .int 1, .int 0, .int 0, .int 0])), (a4, .inl (k 0, 6, .inl f_1)), (a5, .inl (k 0, 6, .inl (fun _ => 0))), (a6, .inl (k 0, 6, .inl (fun _ => 0)))] := by subst ef_1; exact hD
  refine lv_aload_n hx hb dX1_settle_12 rfl (lv_at hl 1 rfl) ?_
  refine lv_dup hx hb dX1_settle_13 rfl ?_
  refine va_get (D := D) (ci := 0) (v := .int 0) (C := RX1) (T := TX1) (N := 17) hx hb hT iw_TX1 hown hK.1 hP 0 rfl rfl 10 (by decide) (hT _ wd_136) (fun _ h9 => h9) rfl dX1_settle_14 ?_
  refine lv_iconst (v := 1) hx hb dX1_settle_17 (by decide) ?_
  refine lv_iadd hx hb dX1_settle_18 ?_
  refine gx_cst (v := 1) (by decide) ?_
  refine va_put (D := D) (ci := 0) (v := .int 1) (ty := .int) (C := RX1) (T := TX1) (N := 17) hx hb hT iw_TX1 tyX1 tyX1_ok nmX1 hown hK.1 hP hD hS 0 rfl rfl 10 (by decide) (hT _ wd_136) (fun _ h9 => h9) rfl (by decide +kernel) rfl rfl (Nat.le_of_ble_eq_true rfl) dX1_settle_19 (fun H locs hP hD hS => ?_)
  have hP : va_P D gx_cl [(h0, .inr (0, [.ref a0, .ref a1, .ref a2, .ref a3, .ref a4, .ref a5, .ref a6, .ref a7, .ref a8, .int 0, .int 1, .int 0, .int 0, .int 1, .int 0, .int 0, .int 0])), (a4, .inl (k 0, 6, .inl f_1)), (a5, .inl (k 0, 6, .inl (fun _ => 0))), (a6, .inl (k 0, 6, .inl (fun _ => 0)))] H := hP
  have hD : va_D A [(h0, .inr (0, [.ref a0, .ref a1, .ref a2, .ref a3, .ref a4, .ref a5, .ref a6, .ref a7, .ref a8, .int 0, .int 1, .int 0, .int 0, .int 1, .int 0, .int 0, .int 0])), (a4, .inl (k 0, 6, .inl f_1)), (a5, .inl (k 0, 6, .inl (fun _ => 0))), (a6, .inl (k 0, 6, .inl (fun _ => 0)))] := hD
  refine lv_aload_n hx hb dX1_settle_22 rfl (lv_at hl 1 rfl) ?_
  refine lv_iload_n hx hb dX1_settle_23 rfl (lv_at hl 0 rfl) ?_
  refine lv_iload_n hx hb dX1_settle_24 rfl (lv_at hl 2 rfl) ?_
  refine gx_ev (wc := ([(h0, .inr (0, [.ref a0, .ref a1, .ref a2, .ref a3, .ref a4, .ref a5, .ref a6, .ref a7, .ref a8, .int 0, .int 1, .int 0, .int 0, .int 1, .int 0, .int 0, .int 0])), (a5, .inl (k 0, 6, .inl (fun _ => 0))), (a6, .inl (k 0, 6, .inl (fun _ => 0)))] : va_W)) (wr := [(a4, .inl (k 0, 6, .inl f_1))]) (isC := [0, 2, 3]) (isR := [1]) hP hD hS hA rfl rfl (by decide) (by decide) (gx_runV (na := 2) (As := [.int 0, .int x]) (rest := []) (ci := 0) C hl.1 hK (gx_subP (wc := ([(h0, .inr (0, [.ref a0, .ref a1, .ref a2, .ref a3, .ref a4, .ref a5, .ref a6, .ref a7, .ref a8, .int 0, .int 1, .int 0, .int 0, .int 1, .int 0, .int 0, .int 0])), (a5, .inl (k 0, 6, .inl (fun _ => 0))), (a6, .inl (k 0, 6, .inl (fun _ => 0)))] : va_W)) hP [0, 2, 3] rfl) ((hD.sub (ws' := ([(h0, .inr (0, [.ref a0, .ref a1, .ref a2, .ref a3, .ref a4, .ref a5, .ref a6, .ref a7, .ref a8, .int 0, .int 1, .int 0, .int 0, .int 1, .int 0, .int 0, .int 0])), (a5, .inl (k 0, 6, .inl (fun _ => 0))), (a6, .inl (k 0, 6, .inl (fun _ => 0)))] : va_W)) [0, 2, 3] (by decide) rfl).weaken (fun _ _ _ _ => trivial)) (k_put l D k h0 a0 a1 a2 a3 a4 a5 a6 a7 a8 x _) gV_RX1_76 (by decide +kernel) rfl rfl ⟨Nat.le_of_ble_eq_true rfl, Nat.le_of_ble_eq_true rfl⟩ rfl rfl rfl rfl (Nat.le_of_ble_eq_true rfl) dX1_settle_25 ⟨Nat.le_of_ble_eq_true rfl, Nat.le_of_ble_eq_true rfl⟩) (fun u_2 H locs h_3 hP hD hS => ?_)
  have hP : va_P D gx_cl [(a4, .inl (k 0, 6, .inl f_1))] H := hP
  have hD : va_D A [(a4, .inl (k 0, 6, .inl f_1))] := hD
  refine lv_iload_n hx hb dX1_settle_28 rfl (lv_at hl 0 rfl) ?_
  exact gx_retI C (u := ()) gx_nil gx_noneD hS (rfl) dX1_settle_29
set_option maxHeartbeats 4000000 in
set_option maxRecDepth 100000 in
theorem k_become (l : Launch) (D : va_G) (k : Nat → ClassId) (h0 : Nat) (a0 : Nat) (a1 : Nat) (a2 : Nat) (a3 : Nat) (a4 : Nat) (a5 : Nat) (a6 : Nat) (a7 : Nat) (a8 : Nat) (h1 : Nat) (b0 : Nat) (b1 : Nat) (b2 : Nat) (b3 : Nat) (b4 : Nat) (b5 : Nat) (b6 : Nat) (b7 : Nat) (b8 : Nat) (f8 : Nat → Int32) (g8 : Nat → Int32) (sz : Nat) : Met l yX1_become (.code yX1_become cX1_become 2 none :: gx_T) ({ frames := 1, cells := 0, slots := 0, locals := 60 }) (gx_Pre D k [.ref h0, .ref h1] ([(h0, .inr (0, [.ref a0, .ref a1, .ref a2, .ref a3, .ref a4, .ref a5, .ref a6, .ref a7, .ref a8, .int 0, .int 0, .int 0, .int 0, .int 1, .int 0, .int 0, .int 0])), (h1, .inr (0, [.ref b0, .ref b1, .ref b2, .ref b3, .ref b4, .ref b5, .ref b6, .ref b7, .ref b8, .int 0, .int 0, .int 0, .int 0, .int 1, .int 0, .int 0, .int 0])), (a0, .inl (k 0, 16, .inl (fun _ => 0))), (a1, .inl (k 0, 16, .inl (fun _ => 0))), (a2, .inl (k 0, 16, .inl (fun _ => 0))), (a3, .inl (k 0, 16, .inl (fun _ => 0))), (a4, .inl (k 0, 6, .inl (fun _ => 0))), (a5, .inl (k 0, 6, .inl (fun _ => 0))), (a6, .inl (k 0, 6, .inl (fun _ => 0))), (a7, .inl (k 0, 6, .inl (fun _ => 0))), (a8, .inl (k 0, 96, .inl f8)), (b0, .inl (k 0, 16, .inl (fun _ => 0))), (b1, .inl (k 0, 16, .inl (fun _ => 0))), (b2, .inl (k 0, 16, .inl (fun _ => 0))), (b3, .inl (k 0, 16, .inl (fun _ => 0))), (b4, .inl (k 0, 6, .inl (fun _ => 0))), (b5, .inl (k 0, 6, .inl (fun _ => 0))), (b6, .inl (k 0, 6, .inl (fun _ => 0))), (b7, .inl (k 0, 6, .inl (fun _ => 0))), (b8, .inl (k 0, 96, .inl g8))]) sz) (gx_Qv D (fun (u : Unit) => True) (fun (u : Unit) => ([(h0, .inr (0, [.ref a0, .ref a1, .ref a2, .ref a3, .ref a4, .ref a5, .ref a6, .ref a7, .ref a8, .int 0, .int 0, .int 0, .int 0, .int 1, .int 0, .int 0, .int 0]))] : va_W)) (va_A ([(h0, .inr (0, [.ref a0, .ref a1, .ref a2, .ref a3, .ref a4, .ref a5, .ref a6, .ref a7, .ref a8, .int 0, .int 0, .int 0, .int 0, .int 1, .int 0, .int 0, .int 0])), (h1, .inr (0, [.ref b0, .ref b1, .ref b2, .ref b3, .ref b4, .ref b5, .ref b6, .ref b7, .ref b8, .int 0, .int 0, .int 0, .int 0, .int 1, .int 0, .int 0, .int 0])), (a0, .inl (k 0, 16, .inl (fun _ => 0))), (a1, .inl (k 0, 16, .inl (fun _ => 0))), (a2, .inl (k 0, 16, .inl (fun _ => 0))), (a3, .inl (k 0, 16, .inl (fun _ => 0))), (a4, .inl (k 0, 6, .inl (fun _ => 0))), (a5, .inl (k 0, 6, .inl (fun _ => 0))), (a6, .inl (k 0, 6, .inl (fun _ => 0))), (a7, .inl (k 0, 6, .inl (fun _ => 0))), (a8, .inl (k 0, 96, .inl f8)), (b0, .inl (k 0, 16, .inl (fun _ => 0))), (b1, .inl (k 0, 16, .inl (fun _ => 0))), (b2, .inl (k 0, 16, .inl (fun _ => 0))), (b3, .inl (k 0, 16, .inl (fun _ => 0))), (b4, .inl (k 0, 6, .inl (fun _ => 0))), (b5, .inl (k 0, 6, .inl (fun _ => 0))), (b6, .inl (k 0, 6, .inl (fun _ => 0))), (b7, .inl (k 0, 6, .inl (fun _ => 0))), (b8, .inl (k 0, 96, .inl g8))]) sz)) 0 0 (va_A ([(h0, .inr (0, [.ref a0, .ref a1, .ref a2, .ref a3, .ref a4, .ref a5, .ref a6, .ref a7, .ref a8, .int 0, .int 0, .int 0, .int 0, .int 1, .int 0, .int 0, .int 0])), (h1, .inr (0, [.ref b0, .ref b1, .ref b2, .ref b3, .ref b4, .ref b5, .ref b6, .ref b7, .ref b8, .int 0, .int 0, .int 0, .int 0, .int 1, .int 0, .int 0, .int 0])), (a0, .inl (k 0, 16, .inl (fun _ => 0))), (a1, .inl (k 0, 16, .inl (fun _ => 0))), (a2, .inl (k 0, 16, .inl (fun _ => 0))), (a3, .inl (k 0, 16, .inl (fun _ => 0))), (a4, .inl (k 0, 6, .inl (fun _ => 0))), (a5, .inl (k 0, 6, .inl (fun _ => 0))), (a6, .inl (k 0, 6, .inl (fun _ => 0))), (a7, .inl (k 0, 6, .inl (fun _ => 0))), (a8, .inl (k 0, 96, .inl f8)), (b0, .inl (k 0, 16, .inl (fun _ => 0))), (b1, .inl (k 0, 16, .inl (fun _ => 0))), (b2, .inl (k 0, 16, .inl (fun _ => 0))), (b3, .inl (k 0, 16, .inl (fun _ => 0))), (b4, .inl (k 0, 6, .inl (fun _ => 0))), (b5, .inl (k 0, 6, .inl (fun _ => 0))), (b6, .inl (k 0, 6, .inl (fun _ => 0))), (b7, .inl (k 0, 6, .inl (fun _ => 0))), (b8, .inl (k 0, 96, .inl g8))]) sz) := by
  refine gx_metE (Qc := fun A => gx_Qv D (fun (u : Unit) => True) (fun (u : Unit) => ([(h0, .inr (0, [.ref a0, .ref a1, .ref a2, .ref a3, .ref a4, .ref a5, .ref a6, .ref a7, .ref a8, .int 0, .int 0, .int 0, .int 0, .int 1, .int 0, .int 0, .int 0]))] : va_W)) A) (y := yX1_become) (cc := cX1_become) (n := 2) (ret := none) (av := [.ref h0, .ref h1]) (by decide) (Nat.le_of_ble_eq_true rfl) ?_
  intro p e s m below meth c A ls C hA hP hD hK hS hl
  obtain ⟨hx, hb, hr, hml, hown, hT, hlk, hin⟩ := id C
  have hown : s.vm.findClass RX1 = some m.cls := hown
  have hl : lv_has ls 2 [(0, .ref h0), (1, .ref h1)] := hl
  refine lv_aload_n hx hb dX1_become_0 rfl (lv_at hl 1 rfl) ?_
  refine va_get (D := D) (ci := 0) (v := .ref b0) (C := RX1) (T := TX1) (N := 17) hx hb hT iw_TX1 hown hK.1 hP 1 rfl rfl 0 (by decide) (hT _ wd_102) (fun _ h9 => h9) rfl dX1_become_1 ?_
  refine lv_iconst (v := 0) hx hb dX1_become_4 (by decide) ?_
  refine lv_aload_n hx hb dX1_become_5 rfl (lv_at hl 0 rfl) ?_
  refine va_get (D := D) (ci := 0) (v := .ref a0) (C := RX1) (T := TX1) (N := 17) hx hb hT iw_TX1 hown hK.1 hP 0 rfl rfl 0 (by decide) (hT _ wd_102) (fun _ h9 => h9) rfl dX1_become_6 ?_
  refine lv_iconst (v := 0) hx hb dX1_become_9 (by decide) ?_
  refine lv_bipush (v := 16) hx hb dX1_become_10 (by decide) ?_
  refine va_copyi (ty := .int) hx hb (hml.trans hl.1.symm) hown (hT _ wd_513) (hT _ wd_356) (hT _ wd_355) (hT _ wd_76) hK.1 hP hD hS 11 2 0 0 rfl rfl rfl rfl rfl (by decide) (by decide) (by decide) (by decide) (by decide) (fun _ _ => rfl) (Nat.le_of_ble_eq_true rfl) (by decide +kernel) dX1_become_12 (fun H locs hP hD hS => ?_)
  obtain ⟨f_1, ef_1⟩ : ∃ f9, f9 = va_cpy ((fun _ => 0) : Nat → Int32) ((fun _ => 0) : Nat → Int32) (0 : Int32).toNatClampNeg (0 : Int32).toNatClampNeg (16 : Int32).toNatClampNeg := ⟨_, rfl⟩
  have hP : va_P D gx_cl [(h0, .inr (0, [.ref a0, .ref a1, .ref a2, .ref a3, .ref a4, .ref a5, .ref a6, .ref a7, .ref a8, .int 0, .int 0, .int 0, .int 0, .int 1, .int 0, .int 0, .int 0])), (h1, .inr (0, [.ref b0, .ref b1, .ref b2, .ref b3, .ref b4, .ref b5, .ref b6, .ref b7, .ref b8, .int 0, .int 0, .int 0, .int 0, .int 1, .int 0, .int 0, .int 0])), (a0, .inl (k 0, 16, .inl f_1)), (a1, .inl (k 0, 16, .inl (fun _ => 0))), (a2, .inl (k 0, 16, .inl (fun _ => 0))), (a3, .inl (k 0, 16, .inl (fun _ => 0))), (a4, .inl (k 0, 6, .inl (fun _ => 0))), (a5, .inl (k 0, 6, .inl (fun _ => 0))), (a6, .inl (k 0, 6, .inl (fun _ => 0))), (a7, .inl (k 0, 6, .inl (fun _ => 0))), (a8, .inl (k 0, 96, .inl f8)), (b0, .inl (k 0, 16, .inl (fun _ => 0))), (b1, .inl (k 0, 16, .inl (fun _ => 0))), (b2, .inl (k 0, 16, .inl (fun _ => 0))), (b3, .inl (k 0, 16, .inl (fun _ => 0))), (b4, .inl (k 0, 6, .inl (fun _ => 0))), (b5, .inl (k 0, 6, .inl (fun _ => 0))), (b6, .inl (k 0, 6, .inl (fun _ => 0))), (b7, .inl (k 0, 6, .inl (fun _ => 0))), (b8, .inl (k 0, 96, .inl g8))] H := by subst ef_1; exact hP
  have hD : va_D A [(h0, .inr (0, [.ref a0, .ref a1, .ref a2, .ref a3, .ref a4, .ref a5, .ref a6, .ref a7, .ref a8, .int 0, .int 0, .int 0, .int 0, .int 1, .int 0, .int 0, .int 0])), (h1, .inr (0, [.ref b0, .ref b1, .ref b2, .ref b3, .ref b4, .ref b5, .ref b6, .ref b7, .ref b8, .int 0, .int 0, .int 0, .int 0, .int 1, .int 0, .int 0, .int 0])), (a0, .inl (k 0, 16, .inl f_1)), (a1, .inl (k 0, 16, .inl (fun _ => 0))), (a2, .inl (k 0, 16, .inl (fun _ => 0))), (a3, .inl (k 0, 16, .inl (fun _ => 0))), (a4, .inl (k 0, 6, .inl (fun _ => 0))), (a5, .inl (k 0, 6, .inl (fun _ => 0))), (a6, .inl (k 0, 6, .inl (fun _ => 0))), (a7, .inl (k 0, 6, .inl (fun _ => 0))), (a8, .inl (k 0, 96, .inl f8)), (b0, .inl (k 0, 16, .inl (fun _ => 0))), (b1, .inl (k 0, 16, .inl (fun _ => 0))), (b2, .inl (k 0, 16, .inl (fun _ => 0))), (b3, .inl (k 0, 16, .inl (fun _ => 0))), (b4, .inl (k 0, 6, .inl (fun _ => 0))), (b5, .inl (k 0, 6, .inl (fun _ => 0))), (b6, .inl (k 0, 6, .inl (fun _ => 0))), (b7, .inl (k 0, 6, .inl (fun _ => 0))), (b8, .inl (k 0, 96, .inl g8))] := by subst ef_1; exact hD
  refine lv_aload_n hx hb dX1_become_15 rfl (lv_at hl 1 rfl) ?_
  refine va_get (D := D) (ci := 0) (v := .ref b1) (C := RX1) (T := TX1) (N := 17) hx hb hT iw_TX1 hown hK.1 hP 1 rfl rfl 1 (by decide) (hT _ wd_106) (fun _ h9 => h9) rfl dX1_become_16 ?_
  refine lv_iconst (v := 0) hx hb dX1_become_19 (by decide) ?_
  refine lv_aload_n hx hb dX1_become_20 rfl (lv_at hl 0 rfl) ?_
  refine va_get (D := D) (ci := 0) (v := .ref a1) (C := RX1) (T := TX1) (N := 17) hx hb hT iw_TX1 hown hK.1 hP 0 rfl rfl 1 (by decide) (hT _ wd_106) (fun _ h9 => h9) rfl dX1_become_21 ?_
  refine lv_iconst (v := 0) hx hb dX1_become_24 (by decide) ?_
  refine lv_bipush (v := 16) hx hb dX1_become_25 (by decide) ?_
  refine va_copyi (ty := .int) hx hb (hml.trans hl.1.symm) hown (hT _ wd_513) (hT _ wd_356) (hT _ wd_355) (hT _ wd_76) hK.1 hP hD hS 12 3 0 0 rfl rfl rfl rfl rfl (by decide) (by decide) (by decide) (by decide) (by decide) (fun _ _ => rfl) (Nat.le_of_ble_eq_true rfl) (by decide +kernel) dX1_become_27 (fun H locs hP hD hS => ?_)
  obtain ⟨f_2, ef_2⟩ : ∃ f9, f9 = va_cpy ((fun _ => 0) : Nat → Int32) ((fun _ => 0) : Nat → Int32) (0 : Int32).toNatClampNeg (0 : Int32).toNatClampNeg (16 : Int32).toNatClampNeg := ⟨_, rfl⟩
  have hP : va_P D gx_cl [(h0, .inr (0, [.ref a0, .ref a1, .ref a2, .ref a3, .ref a4, .ref a5, .ref a6, .ref a7, .ref a8, .int 0, .int 0, .int 0, .int 0, .int 1, .int 0, .int 0, .int 0])), (h1, .inr (0, [.ref b0, .ref b1, .ref b2, .ref b3, .ref b4, .ref b5, .ref b6, .ref b7, .ref b8, .int 0, .int 0, .int 0, .int 0, .int 1, .int 0, .int 0, .int 0])), (a0, .inl (k 0, 16, .inl f_1)), (a1, .inl (k 0, 16, .inl f_2)), (a2, .inl (k 0, 16, .inl (fun _ => 0))), (a3, .inl (k 0, 16, .inl (fun _ => 0))), (a4, .inl (k 0, 6, .inl (fun _ => 0))), (a5, .inl (k 0, 6, .inl (fun _ => 0))), (a6, .inl (k 0, 6, .inl (fun _ => 0))), (a7, .inl (k 0, 6, .inl (fun _ => 0))), (a8, .inl (k 0, 96, .inl f8)), (b0, .inl (k 0, 16, .inl (fun _ => 0))), (b1, .inl (k 0, 16, .inl (fun _ => 0))), (b2, .inl (k 0, 16, .inl (fun _ => 0))), (b3, .inl (k 0, 16, .inl (fun _ => 0))), (b4, .inl (k 0, 6, .inl (fun _ => 0))), (b5, .inl (k 0, 6, .inl (fun _ => 0))), (b6, .inl (k 0, 6, .inl (fun _ => 0))), (b7, .inl (k 0, 6, .inl (fun _ => 0))), (b8, .inl (k 0, 96, .inl g8))] H := by subst ef_2; exact hP
  have hD : va_D A [(h0, .inr (0, [.ref a0, .ref a1, .ref a2, .ref a3, .ref a4, .ref a5, .ref a6, .ref a7, .ref a8, .int 0, .int 0, .int 0, .int 0, .int 1, .int 0, .int 0, .int 0])), (h1, .inr (0, [.ref b0, .ref b1, .ref b2, .ref b3, .ref b4, .ref b5, .ref b6, .ref b7, .ref b8, .int 0, .int 0, .int 0, .int 0, .int 1, .int 0, .int 0, .int 0])), (a0, .inl (k 0, 16, .inl f_1)), (a1, .inl (k 0, 16, .inl f_2)), (a2, .inl (k 0, 16, .inl (fun _ => 0))), (a3, .inl (k 0, 16, .inl (fun _ => 0))), (a4, .inl (k 0, 6, .inl (fun _ => 0))), (a5, .inl (k 0, 6, .inl (fun _ => 0))), (a6, .inl (k 0, 6, .inl (fun _ => 0))), (a7, .inl (k 0, 6, .inl (fun _ => 0))), (a8, .inl (k 0, 96, .inl f8)), (b0, .inl (k 0, 16, .inl (fun _ => 0))), (b1, .inl (k 0, 16, .inl (fun _ => 0))), (b2, .inl (k 0, 16, .inl (fun _ => 0))), (b3, .inl (k 0, 16, .inl (fun _ => 0))), (b4, .inl (k 0, 6, .inl (fun _ => 0))), (b5, .inl (k 0, 6, .inl (fun _ => 0))), (b6, .inl (k 0, 6, .inl (fun _ => 0))), (b7, .inl (k 0, 6, .inl (fun _ => 0))), (b8, .inl (k 0, 96, .inl g8))] := by subst ef_2; exact hD
  refine lv_aload_n hx hb dX1_become_30 rfl (lv_at hl 1 rfl) ?_
  refine va_get (D := D) (ci := 0) (v := .ref b2) (C := RX1) (T := TX1) (N := 17) hx hb hT iw_TX1 hown hK.1 hP 1 rfl rfl 2 (by decide) (hT _ wd_110) (fun _ h9 => h9) rfl dX1_become_31 ?_
  refine lv_iconst (v := 0) hx hb dX1_become_34 (by decide) ?_
  refine lv_aload_n hx hb dX1_become_35 rfl (lv_at hl 0 rfl) ?_
  refine va_get (D := D) (ci := 0) (v := .ref a2) (C := RX1) (T := TX1) (N := 17) hx hb hT iw_TX1 hown hK.1 hP 0 rfl rfl 2 (by decide) (hT _ wd_110) (fun _ h9 => h9) rfl dX1_become_36 ?_
  refine lv_iconst (v := 0) hx hb dX1_become_39 (by decide) ?_
  refine lv_bipush (v := 16) hx hb dX1_become_40 (by decide) ?_
  refine va_copyi (ty := .int) hx hb (hml.trans hl.1.symm) hown (hT _ wd_513) (hT _ wd_356) (hT _ wd_355) (hT _ wd_76) hK.1 hP hD hS 13 4 0 0 rfl rfl rfl rfl rfl (by decide) (by decide) (by decide) (by decide) (by decide) (fun _ _ => rfl) (Nat.le_of_ble_eq_true rfl) (by decide +kernel) dX1_become_42 (fun H locs hP hD hS => ?_)
  obtain ⟨f_3, ef_3⟩ : ∃ f9, f9 = va_cpy ((fun _ => 0) : Nat → Int32) ((fun _ => 0) : Nat → Int32) (0 : Int32).toNatClampNeg (0 : Int32).toNatClampNeg (16 : Int32).toNatClampNeg := ⟨_, rfl⟩
  have hP : va_P D gx_cl [(h0, .inr (0, [.ref a0, .ref a1, .ref a2, .ref a3, .ref a4, .ref a5, .ref a6, .ref a7, .ref a8, .int 0, .int 0, .int 0, .int 0, .int 1, .int 0, .int 0, .int 0])), (h1, .inr (0, [.ref b0, .ref b1, .ref b2, .ref b3, .ref b4, .ref b5, .ref b6, .ref b7, .ref b8, .int 0, .int 0, .int 0, .int 0, .int 1, .int 0, .int 0, .int 0])), (a0, .inl (k 0, 16, .inl f_1)), (a1, .inl (k 0, 16, .inl f_2)), (a2, .inl (k 0, 16, .inl f_3)), (a3, .inl (k 0, 16, .inl (fun _ => 0))), (a4, .inl (k 0, 6, .inl (fun _ => 0))), (a5, .inl (k 0, 6, .inl (fun _ => 0))), (a6, .inl (k 0, 6, .inl (fun _ => 0))), (a7, .inl (k 0, 6, .inl (fun _ => 0))), (a8, .inl (k 0, 96, .inl f8)), (b0, .inl (k 0, 16, .inl (fun _ => 0))), (b1, .inl (k 0, 16, .inl (fun _ => 0))), (b2, .inl (k 0, 16, .inl (fun _ => 0))), (b3, .inl (k 0, 16, .inl (fun _ => 0))), (b4, .inl (k 0, 6, .inl (fun _ => 0))), (b5, .inl (k 0, 6, .inl (fun _ => 0))), (b6, .inl (k 0, 6, .inl (fun _ => 0))), (b7, .inl (k 0, 6, .inl (fun _ => 0))), (b8, .inl (k 0, 96, .inl g8))] H := by subst ef_3; exact hP
  have hD : va_D A [(h0, .inr (0, [.ref a0, .ref a1, .ref a2, .ref a3, .ref a4, .ref a5, .ref a6, .ref a7, .ref a8, .int 0, .int 0, .int 0, .int 0, .int 1, .int 0, .int 0, .int 0])), (h1, .inr (0, [.ref b0, .ref b1, .ref b2, .ref b3, .ref b4, .ref b5, .ref b6, .ref b7, .ref b8, .int 0, .int 0, .int 0, .int 0, .int 1, .int 0, .int 0, .int 0])), (a0, .inl (k 0, 16, .inl f_1)), (a1, .inl (k 0, 16, .inl f_2)), (a2, .inl (k 0, 16, .inl f_3)), (a3, .inl (k 0, 16, .inl (fun _ => 0))), (a4, .inl (k 0, 6, .inl (fun _ => 0))), (a5, .inl (k 0, 6, .inl (fun _ => 0))), (a6, .inl (k 0, 6, .inl (fun _ => 0))), (a7, .inl (k 0, 6, .inl (fun _ => 0))), (a8, .inl (k 0, 96, .inl f8)), (b0, .inl (k 0, 16, .inl (fun _ => 0))), (b1, .inl (k 0, 16, .inl (fun _ => 0))), (b2, .inl (k 0, 16, .inl (fun _ => 0))), (b3, .inl (k 0, 16, .inl (fun _ => 0))), (b4, .inl (k 0, 6, .inl (fun _ => 0))), (b5, .inl (k 0, 6, .inl (fun _ => 0))), (b6, .inl (k 0, 6, .inl (fun _ => 0))), (b7, .inl (k 0, 6, .inl (fun _ => 0))), (b8, .inl (k 0, 96, .inl g8))] := by subst ef_3; exact hD
  refine lv_aload_n hx hb dX1_become_45 rfl (lv_at hl 1 rfl) ?_
  refine va_get (D := D) (ci := 0) (v := .ref b3) (C := RX1) (T := TX1) (N := 17) hx hb hT iw_TX1 hown hK.1 hP 1 rfl rfl 3 (by decide) (hT _ wd_113) (fun _ h9 => h9) rfl dX1_become_46 ?_
  refine lv_iconst (v := 0) hx hb dX1_become_49 (by decide) ?_
  refine lv_aload_n hx hb dX1_become_50 rfl (lv_at hl 0 rfl) ?_
  refine va_get (D := D) (ci := 0) (v := .ref a3) (C := RX1) (T := TX1) (N := 17) hx hb hT iw_TX1 hown hK.1 hP 0 rfl rfl 3 (by decide) (hT _ wd_113) (fun _ h9 => h9) rfl dX1_become_51 ?_
  refine lv_iconst (v := 0) hx hb dX1_become_54 (by decide) ?_
  refine lv_bipush (v := 16) hx hb dX1_become_55 (by decide) ?_
  refine va_copyi (ty := .int) hx hb (hml.trans hl.1.symm) hown (hT _ wd_513) (hT _ wd_356) (hT _ wd_355) (hT _ wd_76) hK.1 hP hD hS 14 5 0 0 rfl rfl rfl rfl rfl (by decide) (by decide) (by decide) (by decide) (by decide) (fun _ _ => rfl) (Nat.le_of_ble_eq_true rfl) (by decide +kernel) dX1_become_57 (fun H locs hP hD hS => ?_)
  obtain ⟨f_4, ef_4⟩ : ∃ f9, f9 = va_cpy ((fun _ => 0) : Nat → Int32) ((fun _ => 0) : Nat → Int32) (0 : Int32).toNatClampNeg (0 : Int32).toNatClampNeg (16 : Int32).toNatClampNeg := ⟨_, rfl⟩
  have hP : va_P D gx_cl [(h0, .inr (0, [.ref a0, .ref a1, .ref a2, .ref a3, .ref a4, .ref a5, .ref a6, .ref a7, .ref a8, .int 0, .int 0, .int 0, .int 0, .int 1, .int 0, .int 0, .int 0])), (h1, .inr (0, [.ref b0, .ref b1, .ref b2, .ref b3, .ref b4, .ref b5, .ref b6, .ref b7, .ref b8, .int 0, .int 0, .int 0, .int 0, .int 1, .int 0, .int 0, .int 0])), (a0, .inl (k 0, 16, .inl f_1)), (a1, .inl (k 0, 16, .inl f_2)), (a2, .inl (k 0, 16, .inl f_3)), (a3, .inl (k 0, 16, .inl f_4)), (a4, .inl (k 0, 6, .inl (fun _ => 0))), (a5, .inl (k 0, 6, .inl (fun _ => 0))), (a6, .inl (k 0, 6, .inl (fun _ => 0))), (a7, .inl (k 0, 6, .inl (fun _ => 0))), (a8, .inl (k 0, 96, .inl f8)), (b0, .inl (k 0, 16, .inl (fun _ => 0))), (b1, .inl (k 0, 16, .inl (fun _ => 0))), (b2, .inl (k 0, 16, .inl (fun _ => 0))), (b3, .inl (k 0, 16, .inl (fun _ => 0))), (b4, .inl (k 0, 6, .inl (fun _ => 0))), (b5, .inl (k 0, 6, .inl (fun _ => 0))), (b6, .inl (k 0, 6, .inl (fun _ => 0))), (b7, .inl (k 0, 6, .inl (fun _ => 0))), (b8, .inl (k 0, 96, .inl g8))] H := by subst ef_4; exact hP
  have hD : va_D A [(h0, .inr (0, [.ref a0, .ref a1, .ref a2, .ref a3, .ref a4, .ref a5, .ref a6, .ref a7, .ref a8, .int 0, .int 0, .int 0, .int 0, .int 1, .int 0, .int 0, .int 0])), (h1, .inr (0, [.ref b0, .ref b1, .ref b2, .ref b3, .ref b4, .ref b5, .ref b6, .ref b7, .ref b8, .int 0, .int 0, .int 0, .int 0, .int 1, .int 0, .int 0, .int 0])), (a0, .inl (k 0, 16, .inl f_1)), (a1, .inl (k 0, 16, .inl f_2)), (a2, .inl (k 0, 16, .inl f_3)), (a3, .inl (k 0, 16, .inl f_4)), (a4, .inl (k 0, 6, .inl (fun _ => 0))), (a5, .inl (k 0, 6, .inl (fun _ => 0))), (a6, .inl (k 0, 6, .inl (fun _ => 0))), (a7, .inl (k 0, 6, .inl (fun _ => 0))), (a8, .inl (k 0, 96, .inl f8)), (b0, .inl (k 0, 16, .inl (fun _ => 0))), (b1, .inl (k 0, 16, .inl (fun _ => 0))), (b2, .inl (k 0, 16, .inl (fun _ => 0))), (b3, .inl (k 0, 16, .inl (fun _ => 0))), (b4, .inl (k 0, 6, .inl (fun _ => 0))), (b5, .inl (k 0, 6, .inl (fun _ => 0))), (b6, .inl (k 0, 6, .inl (fun _ => 0))), (b7, .inl (k 0, 6, .inl (fun _ => 0))), (b8, .inl (k 0, 96, .inl g8))] := by subst ef_4; exact hD
  refine lv_aload_n hx hb dX1_become_60 rfl (lv_at hl 1 rfl) ?_
  refine va_get (D := D) (ci := 0) (v := .ref b4) (C := RX1) (T := TX1) (N := 17) hx hb hT iw_TX1 hown hK.1 hP 1 rfl rfl 4 (by decide) (hT _ wd_118) (fun _ h9 => h9) rfl dX1_become_61 ?_
  refine lv_iconst (v := 0) hx hb dX1_become_64 (by decide) ?_
  refine lv_aload_n hx hb dX1_become_65 rfl (lv_at hl 0 rfl) ?_
  refine va_get (D := D) (ci := 0) (v := .ref a4) (C := RX1) (T := TX1) (N := 17) hx hb hT iw_TX1 hown hK.1 hP 0 rfl rfl 4 (by decide) (hT _ wd_118) (fun _ h9 => h9) rfl dX1_become_66 ?_
  refine lv_iconst (v := 0) hx hb dX1_become_69 (by decide) ?_
  refine lv_bipush (v := 6) hx hb dX1_become_70 (by decide) ?_
  refine va_copyi (ty := .int) hx hb (hml.trans hl.1.symm) hown (hT _ wd_513) (hT _ wd_356) (hT _ wd_355) (hT _ wd_76) hK.1 hP hD hS 15 6 0 0 rfl rfl rfl rfl rfl (by decide) (by decide) (by decide) (by decide) (by decide) (fun _ _ => rfl) (Nat.le_of_ble_eq_true rfl) (by decide +kernel) dX1_become_72 (fun H locs hP hD hS => ?_)
  obtain ⟨f_5, ef_5⟩ : ∃ f9, f9 = va_cpy ((fun _ => 0) : Nat → Int32) ((fun _ => 0) : Nat → Int32) (0 : Int32).toNatClampNeg (0 : Int32).toNatClampNeg (6 : Int32).toNatClampNeg := ⟨_, rfl⟩
  have hP : va_P D gx_cl [(h0, .inr (0, [.ref a0, .ref a1, .ref a2, .ref a3, .ref a4, .ref a5, .ref a6, .ref a7, .ref a8, .int 0, .int 0, .int 0, .int 0, .int 1, .int 0, .int 0, .int 0])), (h1, .inr (0, [.ref b0, .ref b1, .ref b2, .ref b3, .ref b4, .ref b5, .ref b6, .ref b7, .ref b8, .int 0, .int 0, .int 0, .int 0, .int 1, .int 0, .int 0, .int 0])), (a0, .inl (k 0, 16, .inl f_1)), (a1, .inl (k 0, 16, .inl f_2)), (a2, .inl (k 0, 16, .inl f_3)), (a3, .inl (k 0, 16, .inl f_4)), (a4, .inl (k 0, 6, .inl f_5)), (a5, .inl (k 0, 6, .inl (fun _ => 0))), (a6, .inl (k 0, 6, .inl (fun _ => 0))), (a7, .inl (k 0, 6, .inl (fun _ => 0))), (a8, .inl (k 0, 96, .inl f8)), (b0, .inl (k 0, 16, .inl (fun _ => 0))), (b1, .inl (k 0, 16, .inl (fun _ => 0))), (b2, .inl (k 0, 16, .inl (fun _ => 0))), (b3, .inl (k 0, 16, .inl (fun _ => 0))), (b4, .inl (k 0, 6, .inl (fun _ => 0))), (b5, .inl (k 0, 6, .inl (fun _ => 0))), (b6, .inl (k 0, 6, .inl (fun _ => 0))), (b7, .inl (k 0, 6, .inl (fun _ => 0))), (b8, .inl (k 0, 96, .inl g8))] H := by subst ef_5; exact hP
  have hD : va_D A [(h0, .inr (0, [.ref a0, .ref a1, .ref a2, .ref a3, .ref a4, .ref a5, .ref a6, .ref a7, .ref a8, .int 0, .int 0, .int 0, .int 0, .int 1, .int 0, .int 0, .int 0])), (h1, .inr (0, [.ref b0, .ref b1, .ref b2, .ref b3, .ref b4, .ref b5, .ref b6, .ref b7, .ref b8, .int 0, .int 0, .int 0, .int 0, .int 1, .int 0, .int 0, .int 0])), (a0, .inl (k 0, 16, .inl f_1)), (a1, .inl (k 0, 16, .inl f_2)), (a2, .inl (k 0, 16, .inl f_3)), (a3, .inl (k 0, 16, .inl f_4)), (a4, .inl (k 0, 6, .inl f_5)), (a5, .inl (k 0, 6, .inl (fun _ => 0))), (a6, .inl (k 0, 6, .inl (fun _ => 0))), (a7, .inl (k 0, 6, .inl (fun _ => 0))), (a8, .inl (k 0, 96, .inl f8)), (b0, .inl (k 0, 16, .inl (fun _ => 0))), (b1, .inl (k 0, 16, .inl (fun _ => 0))), (b2, .inl (k 0, 16, .inl (fun _ => 0))), (b3, .inl (k 0, 16, .inl (fun _ => 0))), (b4, .inl (k 0, 6, .inl (fun _ => 0))), (b5, .inl (k 0, 6, .inl (fun _ => 0))), (b6, .inl (k 0, 6, .inl (fun _ => 0))), (b7, .inl (k 0, 6, .inl (fun _ => 0))), (b8, .inl (k 0, 96, .inl g8))] := by subst ef_5; exact hD
  refine lv_aload_n hx hb dX1_become_75 rfl (lv_at hl 1 rfl) ?_
  refine va_get (D := D) (ci := 0) (v := .ref b5) (C := RX1) (T := TX1) (N := 17) hx hb hT iw_TX1 hown hK.1 hP 1 rfl rfl 5 (by decide) (hT _ wd_121) (fun _ h9 => h9) rfl dX1_become_76 ?_
  refine lv_iconst (v := 0) hx hb dX1_become_79 (by decide) ?_
  refine lv_aload_n hx hb dX1_become_80 rfl (lv_at hl 0 rfl) ?_
  refine va_get (D := D) (ci := 0) (v := .ref a5) (C := RX1) (T := TX1) (N := 17) hx hb hT iw_TX1 hown hK.1 hP 0 rfl rfl 5 (by decide) (hT _ wd_121) (fun _ h9 => h9) rfl dX1_become_81 ?_
  refine lv_iconst (v := 0) hx hb dX1_become_84 (by decide) ?_
  refine lv_bipush (v := 6) hx hb dX1_become_85 (by decide) ?_
  refine va_copyi (ty := .int) hx hb (hml.trans hl.1.symm) hown (hT _ wd_513) (hT _ wd_356) (hT _ wd_355) (hT _ wd_76) hK.1 hP hD hS 16 7 0 0 rfl rfl rfl rfl rfl (by decide) (by decide) (by decide) (by decide) (by decide) (fun _ _ => rfl) (Nat.le_of_ble_eq_true rfl) (by decide +kernel) dX1_become_87 (fun H locs hP hD hS => ?_)
  obtain ⟨f_6, ef_6⟩ : ∃ f9, f9 = va_cpy ((fun _ => 0) : Nat → Int32) ((fun _ => 0) : Nat → Int32) (0 : Int32).toNatClampNeg (0 : Int32).toNatClampNeg (6 : Int32).toNatClampNeg := ⟨_, rfl⟩
  have hP : va_P D gx_cl [(h0, .inr (0, [.ref a0, .ref a1, .ref a2, .ref a3, .ref a4, .ref a5, .ref a6, .ref a7, .ref a8, .int 0, .int 0, .int 0, .int 0, .int 1, .int 0, .int 0, .int 0])), (h1, .inr (0, [.ref b0, .ref b1, .ref b2, .ref b3, .ref b4, .ref b5, .ref b6, .ref b7, .ref b8, .int 0, .int 0, .int 0, .int 0, .int 1, .int 0, .int 0, .int 0])), (a0, .inl (k 0, 16, .inl f_1)), (a1, .inl (k 0, 16, .inl f_2)), (a2, .inl (k 0, 16, .inl f_3)), (a3, .inl (k 0, 16, .inl f_4)), (a4, .inl (k 0, 6, .inl f_5)), (a5, .inl (k 0, 6, .inl f_6)), (a6, .inl (k 0, 6, .inl (fun _ => 0))), (a7, .inl (k 0, 6, .inl (fun _ => 0))), (a8, .inl (k 0, 96, .inl f8)), (b0, .inl (k 0, 16, .inl (fun _ => 0))), (b1, .inl (k 0, 16, .inl (fun _ => 0))), (b2, .inl (k 0, 16, .inl (fun _ => 0))), (b3, .inl (k 0, 16, .inl (fun _ => 0))), (b4, .inl (k 0, 6, .inl (fun _ => 0))), (b5, .inl (k 0, 6, .inl (fun _ => 0))), (b6, .inl (k 0, 6, .inl (fun _ => 0))), (b7, .inl (k 0, 6, .inl (fun _ => 0))), (b8, .inl (k 0, 96, .inl g8))] H := by subst ef_6; exact hP
  have hD : va_D A [(h0, .inr (0, [.ref a0, .ref a1, .ref a2, .ref a3, .ref a4, .ref a5, .ref a6, .ref a7, .ref a8, .int 0, .int 0, .int 0, .int 0, .int 1, .int 0, .int 0, .int 0])), (h1, .inr (0, [.ref b0, .ref b1, .ref b2, .ref b3, .ref b4, .ref b5, .ref b6, .ref b7, .ref b8, .int 0, .int 0, .int 0, .int 0, .int 1, .int 0, .int 0, .int 0])), (a0, .inl (k 0, 16, .inl f_1)), (a1, .inl (k 0, 16, .inl f_2)), (a2, .inl (k 0, 16, .inl f_3)), (a3, .inl (k 0, 16, .inl f_4)), (a4, .inl (k 0, 6, .inl f_5)), (a5, .inl (k 0, 6, .inl f_6)), (a6, .inl (k 0, 6, .inl (fun _ => 0))), (a7, .inl (k 0, 6, .inl (fun _ => 0))), (a8, .inl (k 0, 96, .inl f8)), (b0, .inl (k 0, 16, .inl (fun _ => 0))), (b1, .inl (k 0, 16, .inl (fun _ => 0))), (b2, .inl (k 0, 16, .inl (fun _ => 0))), (b3, .inl (k 0, 16, .inl (fun _ => 0))), (b4, .inl (k 0, 6, .inl (fun _ => 0))), (b5, .inl (k 0, 6, .inl (fun _ => 0))), (b6, .inl (k 0, 6, .inl (fun _ => 0))), (b7, .inl (k 0, 6, .inl (fun _ => 0))), (b8, .inl (k 0, 96, .inl g8))] := by subst ef_6; exact hD
  refine lv_aload_n hx hb dX1_become_90 rfl (lv_at hl 1 rfl) ?_
  refine va_get (D := D) (ci := 0) (v := .ref b6) (C := RX1) (T := TX1) (N := 17) hx hb hT iw_TX1 hown hK.1 hP 1 rfl rfl 6 (by decide) (hT _ wd_124) (fun _ h9 => h9) rfl dX1_become_91 ?_
  refine lv_iconst (v := 0) hx hb dX1_become_94 (by decide) ?_
  refine lv_aload_n hx hb dX1_become_95 rfl (lv_at hl 0 rfl) ?_
  refine va_get (D := D) (ci := 0) (v := .ref a6) (C := RX1) (T := TX1) (N := 17) hx hb hT iw_TX1 hown hK.1 hP 0 rfl rfl 6 (by decide) (hT _ wd_124) (fun _ h9 => h9) rfl dX1_become_96 ?_
  refine lv_iconst (v := 0) hx hb dX1_become_99 (by decide) ?_
  refine lv_bipush (v := 6) hx hb dX1_become_100 (by decide) ?_
  refine va_copyi (ty := .int) hx hb (hml.trans hl.1.symm) hown (hT _ wd_513) (hT _ wd_356) (hT _ wd_355) (hT _ wd_76) hK.1 hP hD hS 17 8 0 0 rfl rfl rfl rfl rfl (by decide) (by decide) (by decide) (by decide) (by decide) (fun _ _ => rfl) (Nat.le_of_ble_eq_true rfl) (by decide +kernel) dX1_become_102 (fun H locs hP hD hS => ?_)
  obtain ⟨f_7, ef_7⟩ : ∃ f9, f9 = va_cpy ((fun _ => 0) : Nat → Int32) ((fun _ => 0) : Nat → Int32) (0 : Int32).toNatClampNeg (0 : Int32).toNatClampNeg (6 : Int32).toNatClampNeg := ⟨_, rfl⟩
  have hP : va_P D gx_cl [(h0, .inr (0, [.ref a0, .ref a1, .ref a2, .ref a3, .ref a4, .ref a5, .ref a6, .ref a7, .ref a8, .int 0, .int 0, .int 0, .int 0, .int 1, .int 0, .int 0, .int 0])), (h1, .inr (0, [.ref b0, .ref b1, .ref b2, .ref b3, .ref b4, .ref b5, .ref b6, .ref b7, .ref b8, .int 0, .int 0, .int 0, .int 0, .int 1, .int 0, .int 0, .int 0])), (a0, .inl (k 0, 16, .inl f_1)), (a1, .inl (k 0, 16, .inl f_2)), (a2, .inl (k 0, 16, .inl f_3)), (a3, .inl (k 0, 16, .inl f_4)), (a4, .inl (k 0, 6, .inl f_5)), (a5, .inl (k 0, 6, .inl f_6)), (a6, .inl (k 0, 6, .inl f_7)), (a7, .inl (k 0, 6, .inl (fun _ => 0))), (a8, .inl (k 0, 96, .inl f8)), (b0, .inl (k 0, 16, .inl (fun _ => 0))), (b1, .inl (k 0, 16, .inl (fun _ => 0))), (b2, .inl (k 0, 16, .inl (fun _ => 0))), (b3, .inl (k 0, 16, .inl (fun _ => 0))), (b4, .inl (k 0, 6, .inl (fun _ => 0))), (b5, .inl (k 0, 6, .inl (fun _ => 0))), (b6, .inl (k 0, 6, .inl (fun _ => 0))), (b7, .inl (k 0, 6, .inl (fun _ => 0))), (b8, .inl (k 0, 96, .inl g8))] H := by subst ef_7; exact hP
  have hD : va_D A [(h0, .inr (0, [.ref a0, .ref a1, .ref a2, .ref a3, .ref a4, .ref a5, .ref a6, .ref a7, .ref a8, .int 0, .int 0, .int 0, .int 0, .int 1, .int 0, .int 0, .int 0])), (h1, .inr (0, [.ref b0, .ref b1, .ref b2, .ref b3, .ref b4, .ref b5, .ref b6, .ref b7, .ref b8, .int 0, .int 0, .int 0, .int 0, .int 1, .int 0, .int 0, .int 0])), (a0, .inl (k 0, 16, .inl f_1)), (a1, .inl (k 0, 16, .inl f_2)), (a2, .inl (k 0, 16, .inl f_3)), (a3, .inl (k 0, 16, .inl f_4)), (a4, .inl (k 0, 6, .inl f_5)), (a5, .inl (k 0, 6, .inl f_6)), (a6, .inl (k 0, 6, .inl f_7)), (a7, .inl (k 0, 6, .inl (fun _ => 0))), (a8, .inl (k 0, 96, .inl f8)), (b0, .inl (k 0, 16, .inl (fun _ => 0))), (b1, .inl (k 0, 16, .inl (fun _ => 0))), (b2, .inl (k 0, 16, .inl (fun _ => 0))), (b3, .inl (k 0, 16, .inl (fun _ => 0))), (b4, .inl (k 0, 6, .inl (fun _ => 0))), (b5, .inl (k 0, 6, .inl (fun _ => 0))), (b6, .inl (k 0, 6, .inl (fun _ => 0))), (b7, .inl (k 0, 6, .inl (fun _ => 0))), (b8, .inl (k 0, 96, .inl g8))] := by subst ef_7; exact hD
  refine lv_aload_n hx hb dX1_become_105 rfl (lv_at hl 1 rfl) ?_
  refine va_get (D := D) (ci := 0) (v := .ref b7) (C := RX1) (T := TX1) (N := 17) hx hb hT iw_TX1 hown hK.1 hP 1 rfl rfl 7 (by decide) (hT _ wd_127) (fun _ h9 => h9) rfl dX1_become_106 ?_
  refine lv_iconst (v := 0) hx hb dX1_become_109 (by decide) ?_
  refine lv_aload_n hx hb dX1_become_110 rfl (lv_at hl 0 rfl) ?_
  refine va_get (D := D) (ci := 0) (v := .ref a7) (C := RX1) (T := TX1) (N := 17) hx hb hT iw_TX1 hown hK.1 hP 0 rfl rfl 7 (by decide) (hT _ wd_127) (fun _ h9 => h9) rfl dX1_become_111 ?_
  refine lv_iconst (v := 0) hx hb dX1_become_114 (by decide) ?_
  refine lv_bipush (v := 6) hx hb dX1_become_115 (by decide) ?_
  refine va_copyi (ty := .int) hx hb (hml.trans hl.1.symm) hown (hT _ wd_513) (hT _ wd_356) (hT _ wd_355) (hT _ wd_76) hK.1 hP hD hS 18 9 0 0 rfl rfl rfl rfl rfl (by decide) (by decide) (by decide) (by decide) (by decide) (fun _ _ => rfl) (Nat.le_of_ble_eq_true rfl) (by decide +kernel) dX1_become_117 (fun H locs hP hD hS => ?_)
  obtain ⟨f_8, ef_8⟩ : ∃ f9, f9 = va_cpy ((fun _ => 0) : Nat → Int32) ((fun _ => 0) : Nat → Int32) (0 : Int32).toNatClampNeg (0 : Int32).toNatClampNeg (6 : Int32).toNatClampNeg := ⟨_, rfl⟩
  have hP : va_P D gx_cl [(h0, .inr (0, [.ref a0, .ref a1, .ref a2, .ref a3, .ref a4, .ref a5, .ref a6, .ref a7, .ref a8, .int 0, .int 0, .int 0, .int 0, .int 1, .int 0, .int 0, .int 0])), (h1, .inr (0, [.ref b0, .ref b1, .ref b2, .ref b3, .ref b4, .ref b5, .ref b6, .ref b7, .ref b8, .int 0, .int 0, .int 0, .int 0, .int 1, .int 0, .int 0, .int 0])), (a0, .inl (k 0, 16, .inl f_1)), (a1, .inl (k 0, 16, .inl f_2)), (a2, .inl (k 0, 16, .inl f_3)), (a3, .inl (k 0, 16, .inl f_4)), (a4, .inl (k 0, 6, .inl f_5)), (a5, .inl (k 0, 6, .inl f_6)), (a6, .inl (k 0, 6, .inl f_7)), (a7, .inl (k 0, 6, .inl f_8)), (a8, .inl (k 0, 96, .inl f8)), (b0, .inl (k 0, 16, .inl (fun _ => 0))), (b1, .inl (k 0, 16, .inl (fun _ => 0))), (b2, .inl (k 0, 16, .inl (fun _ => 0))), (b3, .inl (k 0, 16, .inl (fun _ => 0))), (b4, .inl (k 0, 6, .inl (fun _ => 0))), (b5, .inl (k 0, 6, .inl (fun _ => 0))), (b6, .inl (k 0, 6, .inl (fun _ => 0))), (b7, .inl (k 0, 6, .inl (fun _ => 0))), (b8, .inl (k 0, 96, .inl g8))] H := by subst ef_8; exact hP
  have hD : va_D A [(h0, .inr (0, [.ref a0, .ref a1, .ref a2, .ref a3, .ref a4, .ref a5, .ref a6, .ref a7, .ref a8, .int 0, .int 0, .int 0, .int 0, .int 1, .int 0, .int 0, .int 0])), (h1, .inr (0, [.ref b0, .ref b1, .ref b2, .ref b3, .ref b4, .ref b5, .ref b6, .ref b7, .ref b8, .int 0, .int 0, .int 0, .int 0, .int 1, .int 0, .int 0, .int 0])), (a0, .inl (k 0, 16, .inl f_1)), (a1, .inl (k 0, 16, .inl f_2)), (a2, .inl (k 0, 16, .inl f_3)), (a3, .inl (k 0, 16, .inl f_4)), (a4, .inl (k 0, 6, .inl f_5)), (a5, .inl (k 0, 6, .inl f_6)), (a6, .inl (k 0, 6, .inl f_7)), (a7, .inl (k 0, 6, .inl f_8)), (a8, .inl (k 0, 96, .inl f8)), (b0, .inl (k 0, 16, .inl (fun _ => 0))), (b1, .inl (k 0, 16, .inl (fun _ => 0))), (b2, .inl (k 0, 16, .inl (fun _ => 0))), (b3, .inl (k 0, 16, .inl (fun _ => 0))), (b4, .inl (k 0, 6, .inl (fun _ => 0))), (b5, .inl (k 0, 6, .inl (fun _ => 0))), (b6, .inl (k 0, 6, .inl (fun _ => 0))), (b7, .inl (k 0, 6, .inl (fun _ => 0))), (b8, .inl (k 0, 96, .inl g8))] := by subst ef_8; exact hD
  refine lv_aload_n hx hb dX1_become_120 rfl (lv_at hl 1 rfl) ?_
  refine va_get (D := D) (ci := 0) (v := .ref b8) (C := RX1) (T := TX1) (N := 17) hx hb hT iw_TX1 hown hK.1 hP 1 rfl rfl 8 (by decide) (hT _ wd_129) (fun _ h9 => h9) rfl dX1_become_121 ?_
  refine lv_iconst (v := 0) hx hb dX1_become_124 (by decide) ?_
  refine lv_aload_n hx hb dX1_become_125 rfl (lv_at hl 0 rfl) ?_
  refine va_get (D := D) (ci := 0) (v := .ref a8) (C := RX1) (T := TX1) (N := 17) hx hb hT iw_TX1 hown hK.1 hP 0 rfl rfl 8 (by decide) (hT _ wd_129) (fun _ h9 => h9) rfl dX1_become_126 ?_
  refine lv_iconst (v := 0) hx hb dX1_become_129 (by decide) ?_
  refine lv_bipush (v := 96) hx hb dX1_become_130 (by decide) ?_
  refine va_copyi (ty := .int) hx hb (hml.trans hl.1.symm) hown (hT _ wd_513) (hT _ wd_356) (hT _ wd_355) (hT _ wd_76) hK.1 hP hD hS 19 10 0 0 rfl rfl rfl rfl rfl (by decide) (by decide) (by decide) (by decide) (by decide) (fun _ _ => rfl) (Nat.le_of_ble_eq_true rfl) (by decide +kernel) dX1_become_132 (fun H locs hP hD hS => ?_)
  obtain ⟨f_9, ef_9⟩ : ∃ f9, f9 = va_cpy (g8 : Nat → Int32) (f8 : Nat → Int32) (0 : Int32).toNatClampNeg (0 : Int32).toNatClampNeg (96 : Int32).toNatClampNeg := ⟨_, rfl⟩
  have hP : va_P D gx_cl [(h0, .inr (0, [.ref a0, .ref a1, .ref a2, .ref a3, .ref a4, .ref a5, .ref a6, .ref a7, .ref a8, .int 0, .int 0, .int 0, .int 0, .int 1, .int 0, .int 0, .int 0])), (h1, .inr (0, [.ref b0, .ref b1, .ref b2, .ref b3, .ref b4, .ref b5, .ref b6, .ref b7, .ref b8, .int 0, .int 0, .int 0, .int 0, .int 1, .int 0, .int 0, .int 0])), (a0, .inl (k 0, 16, .inl f_1)), (a1, .inl (k 0, 16, .inl f_2)), (a2, .inl (k 0, 16, .inl f_3)), (a3, .inl (k 0, 16, .inl f_4)), (a4, .inl (k 0, 6, .inl f_5)), (a5, .inl (k 0, 6, .inl f_6)), (a6, .inl (k 0, 6, .inl f_7)), (a7, .inl (k 0, 6, .inl f_8)), (a8, .inl (k 0, 96, .inl f_9)), (b0, .inl (k 0, 16, .inl (fun _ => 0))), (b1, .inl (k 0, 16, .inl (fun _ => 0))), (b2, .inl (k 0, 16, .inl (fun _ => 0))), (b3, .inl (k 0, 16, .inl (fun _ => 0))), (b4, .inl (k 0, 6, .inl (fun _ => 0))), (b5, .inl (k 0, 6, .inl (fun _ => 0))), (b6, .inl (k 0, 6, .inl (fun _ => 0))), (b7, .inl (k 0, 6, .inl (fun _ => 0))), (b8, .inl (k 0, 96, .inl g8))] H := by subst ef_9; exact hP
  have hD : va_D A [(h0, .inr (0, [.ref a0, .ref a1, .ref a2, .ref a3, .ref a4, .ref a5, .ref a6, .ref a7, .ref a8, .int 0, .int 0, .int 0, .int 0, .int 1, .int 0, .int 0, .int 0])), (h1, .inr (0, [.ref b0, .ref b1, .ref b2, .ref b3, .ref b4, .ref b5, .ref b6, .ref b7, .ref b8, .int 0, .int 0, .int 0, .int 0, .int 1, .int 0, .int 0, .int 0])), (a0, .inl (k 0, 16, .inl f_1)), (a1, .inl (k 0, 16, .inl f_2)), (a2, .inl (k 0, 16, .inl f_3)), (a3, .inl (k 0, 16, .inl f_4)), (a4, .inl (k 0, 6, .inl f_5)), (a5, .inl (k 0, 6, .inl f_6)), (a6, .inl (k 0, 6, .inl f_7)), (a7, .inl (k 0, 6, .inl f_8)), (a8, .inl (k 0, 96, .inl f_9)), (b0, .inl (k 0, 16, .inl (fun _ => 0))), (b1, .inl (k 0, 16, .inl (fun _ => 0))), (b2, .inl (k 0, 16, .inl (fun _ => 0))), (b3, .inl (k 0, 16, .inl (fun _ => 0))), (b4, .inl (k 0, 6, .inl (fun _ => 0))), (b5, .inl (k 0, 6, .inl (fun _ => 0))), (b6, .inl (k 0, 6, .inl (fun _ => 0))), (b7, .inl (k 0, 6, .inl (fun _ => 0))), (b8, .inl (k 0, 96, .inl g8))] := by subst ef_9; exact hD
  refine lv_aload_n hx hb dX1_become_135 rfl (lv_at hl 0 rfl) ?_
  refine lv_aload_n hx hb dX1_become_136 rfl (lv_at hl 1 rfl) ?_
  refine va_get (D := D) (ci := 0) (v := .int 0) (C := RX1) (T := TX1) (N := 17) hx hb hT iw_TX1 hown hK.1 hP 1 rfl rfl 9 (by decide) (hT _ wd_132) (fun _ h9 => h9) rfl dX1_become_137 ?_
  refine va_put (D := D) (ci := 0) (v := .int 0) (ty := .int) (C := RX1) (T := TX1) (N := 17) hx hb hT iw_TX1 tyX1 tyX1_ok nmX1 hown hK.1 hP hD hS 0 rfl rfl 9 (by decide) (hT _ wd_132) (fun _ h9 => h9) rfl (by decide +kernel) rfl rfl (Nat.le_of_ble_eq_true rfl) dX1_become_140 (fun H locs hP hD hS => ?_)
  have hP : va_P D gx_cl [(h0, .inr (0, [.ref a0, .ref a1, .ref a2, .ref a3, .ref a4, .ref a5, .ref a6, .ref a7, .ref a8, .int 0, .int 0, .int 0, .int 0, .int 1, .int 0, .int 0, .int 0])), (h1, .inr (0, [.ref b0, .ref b1, .ref b2, .ref b3, .ref b4, .ref b5, .ref b6, .ref b7, .ref b8, .int 0, .int 0, .int 0, .int 0, .int 1, .int 0, .int 0, .int 0])), (a0, .inl (k 0, 16, .inl f_1)), (a1, .inl (k 0, 16, .inl f_2)), (a2, .inl (k 0, 16, .inl f_3)), (a3, .inl (k 0, 16, .inl f_4)), (a4, .inl (k 0, 6, .inl f_5)), (a5, .inl (k 0, 6, .inl f_6)), (a6, .inl (k 0, 6, .inl f_7)), (a7, .inl (k 0, 6, .inl f_8)), (a8, .inl (k 0, 96, .inl f_9)), (b0, .inl (k 0, 16, .inl (fun _ => 0))), (b1, .inl (k 0, 16, .inl (fun _ => 0))), (b2, .inl (k 0, 16, .inl (fun _ => 0))), (b3, .inl (k 0, 16, .inl (fun _ => 0))), (b4, .inl (k 0, 6, .inl (fun _ => 0))), (b5, .inl (k 0, 6, .inl (fun _ => 0))), (b6, .inl (k 0, 6, .inl (fun _ => 0))), (b7, .inl (k 0, 6, .inl (fun _ => 0))), (b8, .inl (k 0, 96, .inl g8))] H := hP
  have hD : va_D A [(h0, .inr (0, [.ref a0, .ref a1, .ref a2, .ref a3, .ref a4, .ref a5, .ref a6, .ref a7, .ref a8, .int 0, .int 0, .int 0, .int 0, .int 1, .int 0, .int 0, .int 0])), (h1, .inr (0, [.ref b0, .ref b1, .ref b2, .ref b3, .ref b4, .ref b5, .ref b6, .ref b7, .ref b8, .int 0, .int 0, .int 0, .int 0, .int 1, .int 0, .int 0, .int 0])), (a0, .inl (k 0, 16, .inl f_1)), (a1, .inl (k 0, 16, .inl f_2)), (a2, .inl (k 0, 16, .inl f_3)), (a3, .inl (k 0, 16, .inl f_4)), (a4, .inl (k 0, 6, .inl f_5)), (a5, .inl (k 0, 6, .inl f_6)), (a6, .inl (k 0, 6, .inl f_7)), (a7, .inl (k 0, 6, .inl f_8)), (a8, .inl (k 0, 96, .inl f_9)), (b0, .inl (k 0, 16, .inl (fun _ => 0))), (b1, .inl (k 0, 16, .inl (fun _ => 0))), (b2, .inl (k 0, 16, .inl (fun _ => 0))), (b3, .inl (k 0, 16, .inl (fun _ => 0))), (b4, .inl (k 0, 6, .inl (fun _ => 0))), (b5, .inl (k 0, 6, .inl (fun _ => 0))), (b6, .inl (k 0, 6, .inl (fun _ => 0))), (b7, .inl (k 0, 6, .inl (fun _ => 0))), (b8, .inl (k 0, 96, .inl g8))] := hD
  refine lv_aload_n hx hb dX1_become_143 rfl (lv_at hl 0 rfl) ?_
  refine lv_aload_n hx hb dX1_become_144 rfl (lv_at hl 1 rfl) ?_
  refine va_get (D := D) (ci := 0) (v := .int 0) (C := RX1) (T := TX1) (N := 17) hx hb hT iw_TX1 hown hK.1 hP 1 rfl rfl 10 (by decide) (hT _ wd_136) (fun _ h9 => h9) rfl dX1_become_145 ?_
  refine va_put (D := D) (ci := 0) (v := .int 0) (ty := .int) (C := RX1) (T := TX1) (N := 17) hx hb hT iw_TX1 tyX1 tyX1_ok nmX1 hown hK.1 hP hD hS 0 rfl rfl 10 (by decide) (hT _ wd_136) (fun _ h9 => h9) rfl (by decide +kernel) rfl rfl (Nat.le_of_ble_eq_true rfl) dX1_become_148 (fun H locs hP hD hS => ?_)
  have hP : va_P D gx_cl [(h0, .inr (0, [.ref a0, .ref a1, .ref a2, .ref a3, .ref a4, .ref a5, .ref a6, .ref a7, .ref a8, .int 0, .int 0, .int 0, .int 0, .int 1, .int 0, .int 0, .int 0])), (h1, .inr (0, [.ref b0, .ref b1, .ref b2, .ref b3, .ref b4, .ref b5, .ref b6, .ref b7, .ref b8, .int 0, .int 0, .int 0, .int 0, .int 1, .int 0, .int 0, .int 0])), (a0, .inl (k 0, 16, .inl f_1)), (a1, .inl (k 0, 16, .inl f_2)), (a2, .inl (k 0, 16, .inl f_3)), (a3, .inl (k 0, 16, .inl f_4)), (a4, .inl (k 0, 6, .inl f_5)), (a5, .inl (k 0, 6, .inl f_6)), (a6, .inl (k 0, 6, .inl f_7)), (a7, .inl (k 0, 6, .inl f_8)), (a8, .inl (k 0, 96, .inl f_9)), (b0, .inl (k 0, 16, .inl (fun _ => 0))), (b1, .inl (k 0, 16, .inl (fun _ => 0))), (b2, .inl (k 0, 16, .inl (fun _ => 0))), (b3, .inl (k 0, 16, .inl (fun _ => 0))), (b4, .inl (k 0, 6, .inl (fun _ => 0))), (b5, .inl (k 0, 6, .inl (fun _ => 0))), (b6, .inl (k 0, 6, .inl (fun _ => 0))), (b7, .inl (k 0, 6, .inl (fun _ => 0))), (b8, .inl (k 0, 96, .inl g8))] H := hP
  have hD : va_D A [(h0, .inr (0, [.ref a0, .ref a1, .ref a2, .ref a3, .ref a4, .ref a5, .ref a6, .ref a7, .ref a8, .int 0, .int 0, .int 0, .int 0, .int 1, .int 0, .int 0, .int 0])), (h1, .inr (0, [.ref b0, .ref b1, .ref b2, .ref b3, .ref b4, .ref b5, .ref b6, .ref b7, .ref b8, .int 0, .int 0, .int 0, .int 0, .int 1, .int 0, .int 0, .int 0])), (a0, .inl (k 0, 16, .inl f_1)), (a1, .inl (k 0, 16, .inl f_2)), (a2, .inl (k 0, 16, .inl f_3)), (a3, .inl (k 0, 16, .inl f_4)), (a4, .inl (k 0, 6, .inl f_5)), (a5, .inl (k 0, 6, .inl f_6)), (a6, .inl (k 0, 6, .inl f_7)), (a7, .inl (k 0, 6, .inl f_8)), (a8, .inl (k 0, 96, .inl f_9)), (b0, .inl (k 0, 16, .inl (fun _ => 0))), (b1, .inl (k 0, 16, .inl (fun _ => 0))), (b2, .inl (k 0, 16, .inl (fun _ => 0))), (b3, .inl (k 0, 16, .inl (fun _ => 0))), (b4, .inl (k 0, 6, .inl (fun _ => 0))), (b5, .inl (k 0, 6, .inl (fun _ => 0))), (b6, .inl (k 0, 6, .inl (fun _ => 0))), (b7, .inl (k 0, 6, .inl (fun _ => 0))), (b8, .inl (k 0, 96, .inl g8))] := hD
  refine lv_aload_n hx hb dX1_become_151 rfl (lv_at hl 0 rfl) ?_
  refine lv_aload_n hx hb dX1_become_152 rfl (lv_at hl 1 rfl) ?_
  refine va_get (D := D) (ci := 0) (v := .int 0) (C := RX1) (T := TX1) (N := 17) hx hb hT iw_TX1 hown hK.1 hP 1 rfl rfl 11 (by decide) (hT _ wd_139) (fun _ h9 => h9) rfl dX1_become_153 ?_
  refine va_put (D := D) (ci := 0) (v := .int 0) (ty := .int) (C := RX1) (T := TX1) (N := 17) hx hb hT iw_TX1 tyX1 tyX1_ok nmX1 hown hK.1 hP hD hS 0 rfl rfl 11 (by decide) (hT _ wd_139) (fun _ h9 => h9) rfl (by decide +kernel) rfl rfl (Nat.le_of_ble_eq_true rfl) dX1_become_156 (fun H locs hP hD hS => ?_)
  have hP : va_P D gx_cl [(h0, .inr (0, [.ref a0, .ref a1, .ref a2, .ref a3, .ref a4, .ref a5, .ref a6, .ref a7, .ref a8, .int 0, .int 0, .int 0, .int 0, .int 1, .int 0, .int 0, .int 0])), (h1, .inr (0, [.ref b0, .ref b1, .ref b2, .ref b3, .ref b4, .ref b5, .ref b6, .ref b7, .ref b8, .int 0, .int 0, .int 0, .int 0, .int 1, .int 0, .int 0, .int 0])), (a0, .inl (k 0, 16, .inl f_1)), (a1, .inl (k 0, 16, .inl f_2)), (a2, .inl (k 0, 16, .inl f_3)), (a3, .inl (k 0, 16, .inl f_4)), (a4, .inl (k 0, 6, .inl f_5)), (a5, .inl (k 0, 6, .inl f_6)), (a6, .inl (k 0, 6, .inl f_7)), (a7, .inl (k 0, 6, .inl f_8)), (a8, .inl (k 0, 96, .inl f_9)), (b0, .inl (k 0, 16, .inl (fun _ => 0))), (b1, .inl (k 0, 16, .inl (fun _ => 0))), (b2, .inl (k 0, 16, .inl (fun _ => 0))), (b3, .inl (k 0, 16, .inl (fun _ => 0))), (b4, .inl (k 0, 6, .inl (fun _ => 0))), (b5, .inl (k 0, 6, .inl (fun _ => 0))), (b6, .inl (k 0, 6, .inl (fun _ => 0))), (b7, .inl (k 0, 6, .inl (fun _ => 0))), (b8, .inl (k 0, 96, .inl g8))] H := hP
  have hD : va_D A [(h0, .inr (0, [.ref a0, .ref a1, .ref a2, .ref a3, .ref a4, .ref a5, .ref a6, .ref a7, .ref a8, .int 0, .int 0, .int 0, .int 0, .int 1, .int 0, .int 0, .int 0])), (h1, .inr (0, [.ref b0, .ref b1, .ref b2, .ref b3, .ref b4, .ref b5, .ref b6, .ref b7, .ref b8, .int 0, .int 0, .int 0, .int 0, .int 1, .int 0, .int 0, .int 0])), (a0, .inl (k 0, 16, .inl f_1)), (a1, .inl (k 0, 16, .inl f_2)), (a2, .inl (k 0, 16, .inl f_3)), (a3, .inl (k 0, 16, .inl f_4)), (a4, .inl (k 0, 6, .inl f_5)), (a5, .inl (k 0, 6, .inl f_6)), (a6, .inl (k 0, 6, .inl f_7)), (a7, .inl (k 0, 6, .inl f_8)), (a8, .inl (k 0, 96, .inl f_9)), (b0, .inl (k 0, 16, .inl (fun _ => 0))), (b1, .inl (k 0, 16, .inl (fun _ => 0))), (b2, .inl (k 0, 16, .inl (fun _ => 0))), (b3, .inl (k 0, 16, .inl (fun _ => 0))), (b4, .inl (k 0, 6, .inl (fun _ => 0))), (b5, .inl (k 0, 6, .inl (fun _ => 0))), (b6, .inl (k 0, 6, .inl (fun _ => 0))), (b7, .inl (k 0, 6, .inl (fun _ => 0))), (b8, .inl (k 0, 96, .inl g8))] := hD
  refine lv_aload_n hx hb dX1_become_159 rfl (lv_at hl 0 rfl) ?_
  refine lv_aload_n hx hb dX1_become_160 rfl (lv_at hl 1 rfl) ?_
  refine va_get (D := D) (ci := 0) (v := .int 0) (C := RX1) (T := TX1) (N := 17) hx hb hT iw_TX1 hown hK.1 hP 1 rfl rfl 12 (by decide) (hT _ wd_141) (fun _ h9 => h9) rfl dX1_become_161 ?_
  refine va_put (D := D) (ci := 0) (v := .int 0) (ty := .int) (C := RX1) (T := TX1) (N := 17) hx hb hT iw_TX1 tyX1 tyX1_ok nmX1 hown hK.1 hP hD hS 0 rfl rfl 12 (by decide) (hT _ wd_141) (fun _ h9 => h9) rfl (by decide +kernel) rfl rfl (Nat.le_of_ble_eq_true rfl) dX1_become_164 (fun H locs hP hD hS => ?_)
  have hP : va_P D gx_cl [(h0, .inr (0, [.ref a0, .ref a1, .ref a2, .ref a3, .ref a4, .ref a5, .ref a6, .ref a7, .ref a8, .int 0, .int 0, .int 0, .int 0, .int 1, .int 0, .int 0, .int 0])), (h1, .inr (0, [.ref b0, .ref b1, .ref b2, .ref b3, .ref b4, .ref b5, .ref b6, .ref b7, .ref b8, .int 0, .int 0, .int 0, .int 0, .int 1, .int 0, .int 0, .int 0])), (a0, .inl (k 0, 16, .inl f_1)), (a1, .inl (k 0, 16, .inl f_2)), (a2, .inl (k 0, 16, .inl f_3)), (a3, .inl (k 0, 16, .inl f_4)), (a4, .inl (k 0, 6, .inl f_5)), (a5, .inl (k 0, 6, .inl f_6)), (a6, .inl (k 0, 6, .inl f_7)), (a7, .inl (k 0, 6, .inl f_8)), (a8, .inl (k 0, 96, .inl f_9)), (b0, .inl (k 0, 16, .inl (fun _ => 0))), (b1, .inl (k 0, 16, .inl (fun _ => 0))), (b2, .inl (k 0, 16, .inl (fun _ => 0))), (b3, .inl (k 0, 16, .inl (fun _ => 0))), (b4, .inl (k 0, 6, .inl (fun _ => 0))), (b5, .inl (k 0, 6, .inl (fun _ => 0))), (b6, .inl (k 0, 6, .inl (fun _ => 0))), (b7, .inl (k 0, 6, .inl (fun _ => 0))), (b8, .inl (k 0, 96, .inl g8))] H := hP
  have hD : va_D A [(h0, .inr (0, [.ref a0, .ref a1, .ref a2, .ref a3, .ref a4, .ref a5, .ref a6, .ref a7, .ref a8, .int 0, .int 0, .int 0, .int 0, .int 1, .int 0, .int 0, .int 0])), (h1, .inr (0, [.ref b0, .ref b1, .ref b2, .ref b3, .ref b4, .ref b5, .ref b6, .ref b7, .ref b8, .int 0, .int 0, .int 0, .int 0, .int 1, .int 0, .int 0, .int 0])), (a0, .inl (k 0, 16, .inl f_1)), (a1, .inl (k 0, 16, .inl f_2)), (a2, .inl (k 0, 16, .inl f_3)), (a3, .inl (k 0, 16, .inl f_4)), (a4, .inl (k 0, 6, .inl f_5)), (a5, .inl (k 0, 6, .inl f_6)), (a6, .inl (k 0, 6, .inl f_7)), (a7, .inl (k 0, 6, .inl f_8)), (a8, .inl (k 0, 96, .inl f_9)), (b0, .inl (k 0, 16, .inl (fun _ => 0))), (b1, .inl (k 0, 16, .inl (fun _ => 0))), (b2, .inl (k 0, 16, .inl (fun _ => 0))), (b3, .inl (k 0, 16, .inl (fun _ => 0))), (b4, .inl (k 0, 6, .inl (fun _ => 0))), (b5, .inl (k 0, 6, .inl (fun _ => 0))), (b6, .inl (k 0, 6, .inl (fun _ => 0))), (b7, .inl (k 0, 6, .inl (fun _ => 0))), (b8, .inl (k 0, 96, .inl g8))] := hD
  refine lv_aload_n hx hb dX1_become_167 rfl (lv_at hl 0 rfl) ?_
  refine lv_aload_n hx hb dX1_become_168 rfl (lv_at hl 1 rfl) ?_
  refine va_get (D := D) (ci := 0) (v := .int 1) (C := RX1) (T := TX1) (N := 17) hx hb hT iw_TX1 hown hK.1 hP 1 rfl rfl 13 (by decide) (hT _ wd_144) (fun _ h9 => h9) rfl dX1_become_169 ?_
  refine va_put (D := D) (ci := 0) (v := .int 1) (ty := .int) (C := RX1) (T := TX1) (N := 17) hx hb hT iw_TX1 tyX1 tyX1_ok nmX1 hown hK.1 hP hD hS 0 rfl rfl 13 (by decide) (hT _ wd_144) (fun _ h9 => h9) rfl (by decide +kernel) rfl rfl (Nat.le_of_ble_eq_true rfl) dX1_become_172 (fun H locs hP hD hS => ?_)
  have hP : va_P D gx_cl [(h0, .inr (0, [.ref a0, .ref a1, .ref a2, .ref a3, .ref a4, .ref a5, .ref a6, .ref a7, .ref a8, .int 0, .int 0, .int 0, .int 0, .int 1, .int 0, .int 0, .int 0])), (h1, .inr (0, [.ref b0, .ref b1, .ref b2, .ref b3, .ref b4, .ref b5, .ref b6, .ref b7, .ref b8, .int 0, .int 0, .int 0, .int 0, .int 1, .int 0, .int 0, .int 0])), (a0, .inl (k 0, 16, .inl f_1)), (a1, .inl (k 0, 16, .inl f_2)), (a2, .inl (k 0, 16, .inl f_3)), (a3, .inl (k 0, 16, .inl f_4)), (a4, .inl (k 0, 6, .inl f_5)), (a5, .inl (k 0, 6, .inl f_6)), (a6, .inl (k 0, 6, .inl f_7)), (a7, .inl (k 0, 6, .inl f_8)), (a8, .inl (k 0, 96, .inl f_9)), (b0, .inl (k 0, 16, .inl (fun _ => 0))), (b1, .inl (k 0, 16, .inl (fun _ => 0))), (b2, .inl (k 0, 16, .inl (fun _ => 0))), (b3, .inl (k 0, 16, .inl (fun _ => 0))), (b4, .inl (k 0, 6, .inl (fun _ => 0))), (b5, .inl (k 0, 6, .inl (fun _ => 0))), (b6, .inl (k 0, 6, .inl (fun _ => 0))), (b7, .inl (k 0, 6, .inl (fun _ => 0))), (b8, .inl (k 0, 96, .inl g8))] H := hP
  have hD : va_D A [(h0, .inr (0, [.ref a0, .ref a1, .ref a2, .ref a3, .ref a4, .ref a5, .ref a6, .ref a7, .ref a8, .int 0, .int 0, .int 0, .int 0, .int 1, .int 0, .int 0, .int 0])), (h1, .inr (0, [.ref b0, .ref b1, .ref b2, .ref b3, .ref b4, .ref b5, .ref b6, .ref b7, .ref b8, .int 0, .int 0, .int 0, .int 0, .int 1, .int 0, .int 0, .int 0])), (a0, .inl (k 0, 16, .inl f_1)), (a1, .inl (k 0, 16, .inl f_2)), (a2, .inl (k 0, 16, .inl f_3)), (a3, .inl (k 0, 16, .inl f_4)), (a4, .inl (k 0, 6, .inl f_5)), (a5, .inl (k 0, 6, .inl f_6)), (a6, .inl (k 0, 6, .inl f_7)), (a7, .inl (k 0, 6, .inl f_8)), (a8, .inl (k 0, 96, .inl f_9)), (b0, .inl (k 0, 16, .inl (fun _ => 0))), (b1, .inl (k 0, 16, .inl (fun _ => 0))), (b2, .inl (k 0, 16, .inl (fun _ => 0))), (b3, .inl (k 0, 16, .inl (fun _ => 0))), (b4, .inl (k 0, 6, .inl (fun _ => 0))), (b5, .inl (k 0, 6, .inl (fun _ => 0))), (b6, .inl (k 0, 6, .inl (fun _ => 0))), (b7, .inl (k 0, 6, .inl (fun _ => 0))), (b8, .inl (k 0, 96, .inl g8))] := hD
  refine lv_aload_n hx hb dX1_become_175 rfl (lv_at hl 0 rfl) ?_
  refine lv_aload_n hx hb dX1_become_176 rfl (lv_at hl 1 rfl) ?_
  refine va_get (D := D) (ci := 0) (v := .int 0) (C := RX1) (T := TX1) (N := 17) hx hb hT iw_TX1 hown hK.1 hP 1 rfl rfl 14 (by decide) (hT _ wd_146) (fun _ h9 => h9) rfl dX1_become_177 ?_
  refine va_put (D := D) (ci := 0) (v := .int 0) (ty := .int) (C := RX1) (T := TX1) (N := 17) hx hb hT iw_TX1 tyX1 tyX1_ok nmX1 hown hK.1 hP hD hS 0 rfl rfl 14 (by decide) (hT _ wd_146) (fun _ h9 => h9) rfl (by decide +kernel) rfl rfl (Nat.le_of_ble_eq_true rfl) dX1_become_180 (fun H locs hP hD hS => ?_)
  have hP : va_P D gx_cl [(h0, .inr (0, [.ref a0, .ref a1, .ref a2, .ref a3, .ref a4, .ref a5, .ref a6, .ref a7, .ref a8, .int 0, .int 0, .int 0, .int 0, .int 1, .int 0, .int 0, .int 0])), (h1, .inr (0, [.ref b0, .ref b1, .ref b2, .ref b3, .ref b4, .ref b5, .ref b6, .ref b7, .ref b8, .int 0, .int 0, .int 0, .int 0, .int 1, .int 0, .int 0, .int 0])), (a0, .inl (k 0, 16, .inl f_1)), (a1, .inl (k 0, 16, .inl f_2)), (a2, .inl (k 0, 16, .inl f_3)), (a3, .inl (k 0, 16, .inl f_4)), (a4, .inl (k 0, 6, .inl f_5)), (a5, .inl (k 0, 6, .inl f_6)), (a6, .inl (k 0, 6, .inl f_7)), (a7, .inl (k 0, 6, .inl f_8)), (a8, .inl (k 0, 96, .inl f_9)), (b0, .inl (k 0, 16, .inl (fun _ => 0))), (b1, .inl (k 0, 16, .inl (fun _ => 0))), (b2, .inl (k 0, 16, .inl (fun _ => 0))), (b3, .inl (k 0, 16, .inl (fun _ => 0))), (b4, .inl (k 0, 6, .inl (fun _ => 0))), (b5, .inl (k 0, 6, .inl (fun _ => 0))), (b6, .inl (k 0, 6, .inl (fun _ => 0))), (b7, .inl (k 0, 6, .inl (fun _ => 0))), (b8, .inl (k 0, 96, .inl g8))] H := hP
  have hD : va_D A [(h0, .inr (0, [.ref a0, .ref a1, .ref a2, .ref a3, .ref a4, .ref a5, .ref a6, .ref a7, .ref a8, .int 0, .int 0, .int 0, .int 0, .int 1, .int 0, .int 0, .int 0])), (h1, .inr (0, [.ref b0, .ref b1, .ref b2, .ref b3, .ref b4, .ref b5, .ref b6, .ref b7, .ref b8, .int 0, .int 0, .int 0, .int 0, .int 1, .int 0, .int 0, .int 0])), (a0, .inl (k 0, 16, .inl f_1)), (a1, .inl (k 0, 16, .inl f_2)), (a2, .inl (k 0, 16, .inl f_3)), (a3, .inl (k 0, 16, .inl f_4)), (a4, .inl (k 0, 6, .inl f_5)), (a5, .inl (k 0, 6, .inl f_6)), (a6, .inl (k 0, 6, .inl f_7)), (a7, .inl (k 0, 6, .inl f_8)), (a8, .inl (k 0, 96, .inl f_9)), (b0, .inl (k 0, 16, .inl (fun _ => 0))), (b1, .inl (k 0, 16, .inl (fun _ => 0))), (b2, .inl (k 0, 16, .inl (fun _ => 0))), (b3, .inl (k 0, 16, .inl (fun _ => 0))), (b4, .inl (k 0, 6, .inl (fun _ => 0))), (b5, .inl (k 0, 6, .inl (fun _ => 0))), (b6, .inl (k 0, 6, .inl (fun _ => 0))), (b7, .inl (k 0, 6, .inl (fun _ => 0))), (b8, .inl (k 0, 96, .inl g8))] := hD
  refine lv_aload_n hx hb dX1_become_183 rfl (lv_at hl 0 rfl) ?_
  refine lv_aload_n hx hb dX1_become_184 rfl (lv_at hl 1 rfl) ?_
  refine va_get (D := D) (ci := 0) (v := .int 0) (C := RX1) (T := TX1) (N := 17) hx hb hT iw_TX1 hown hK.1 hP 1 rfl rfl 15 (by decide) (hT _ wd_149) (fun _ h9 => h9) rfl dX1_become_185 ?_
  refine va_put (D := D) (ci := 0) (v := .int 0) (ty := .int) (C := RX1) (T := TX1) (N := 17) hx hb hT iw_TX1 tyX1 tyX1_ok nmX1 hown hK.1 hP hD hS 0 rfl rfl 15 (by decide) (hT _ wd_149) (fun _ h9 => h9) rfl (by decide +kernel) rfl rfl (Nat.le_of_ble_eq_true rfl) dX1_become_188 (fun H locs hP hD hS => ?_)
  have hP : va_P D gx_cl [(h0, .inr (0, [.ref a0, .ref a1, .ref a2, .ref a3, .ref a4, .ref a5, .ref a6, .ref a7, .ref a8, .int 0, .int 0, .int 0, .int 0, .int 1, .int 0, .int 0, .int 0])), (h1, .inr (0, [.ref b0, .ref b1, .ref b2, .ref b3, .ref b4, .ref b5, .ref b6, .ref b7, .ref b8, .int 0, .int 0, .int 0, .int 0, .int 1, .int 0, .int 0, .int 0])), (a0, .inl (k 0, 16, .inl f_1)), (a1, .inl (k 0, 16, .inl f_2)), (a2, .inl (k 0, 16, .inl f_3)), (a3, .inl (k 0, 16, .inl f_4)), (a4, .inl (k 0, 6, .inl f_5)), (a5, .inl (k 0, 6, .inl f_6)), (a6, .inl (k 0, 6, .inl f_7)), (a7, .inl (k 0, 6, .inl f_8)), (a8, .inl (k 0, 96, .inl f_9)), (b0, .inl (k 0, 16, .inl (fun _ => 0))), (b1, .inl (k 0, 16, .inl (fun _ => 0))), (b2, .inl (k 0, 16, .inl (fun _ => 0))), (b3, .inl (k 0, 16, .inl (fun _ => 0))), (b4, .inl (k 0, 6, .inl (fun _ => 0))), (b5, .inl (k 0, 6, .inl (fun _ => 0))), (b6, .inl (k 0, 6, .inl (fun _ => 0))), (b7, .inl (k 0, 6, .inl (fun _ => 0))), (b8, .inl (k 0, 96, .inl g8))] H := hP
  have hD : va_D A [(h0, .inr (0, [.ref a0, .ref a1, .ref a2, .ref a3, .ref a4, .ref a5, .ref a6, .ref a7, .ref a8, .int 0, .int 0, .int 0, .int 0, .int 1, .int 0, .int 0, .int 0])), (h1, .inr (0, [.ref b0, .ref b1, .ref b2, .ref b3, .ref b4, .ref b5, .ref b6, .ref b7, .ref b8, .int 0, .int 0, .int 0, .int 0, .int 1, .int 0, .int 0, .int 0])), (a0, .inl (k 0, 16, .inl f_1)), (a1, .inl (k 0, 16, .inl f_2)), (a2, .inl (k 0, 16, .inl f_3)), (a3, .inl (k 0, 16, .inl f_4)), (a4, .inl (k 0, 6, .inl f_5)), (a5, .inl (k 0, 6, .inl f_6)), (a6, .inl (k 0, 6, .inl f_7)), (a7, .inl (k 0, 6, .inl f_8)), (a8, .inl (k 0, 96, .inl f_9)), (b0, .inl (k 0, 16, .inl (fun _ => 0))), (b1, .inl (k 0, 16, .inl (fun _ => 0))), (b2, .inl (k 0, 16, .inl (fun _ => 0))), (b3, .inl (k 0, 16, .inl (fun _ => 0))), (b4, .inl (k 0, 6, .inl (fun _ => 0))), (b5, .inl (k 0, 6, .inl (fun _ => 0))), (b6, .inl (k 0, 6, .inl (fun _ => 0))), (b7, .inl (k 0, 6, .inl (fun _ => 0))), (b8, .inl (k 0, 96, .inl g8))] := hD
  refine lv_aload_n hx hb dX1_become_191 rfl (lv_at hl 0 rfl) ?_
  refine lv_aload_n hx hb dX1_become_192 rfl (lv_at hl 1 rfl) ?_
  refine va_get (D := D) (ci := 0) (v := .int 0) (C := RX1) (T := TX1) (N := 17) hx hb hT iw_TX1 hown hK.1 hP 1 rfl rfl 16 (by decide) (hT _ wd_151) (fun _ h9 => h9) rfl dX1_become_193 ?_
  refine va_put (D := D) (ci := 0) (v := .int 0) (ty := .int) (C := RX1) (T := TX1) (N := 17) hx hb hT iw_TX1 tyX1 tyX1_ok nmX1 hown hK.1 hP hD hS 0 rfl rfl 16 (by decide) (hT _ wd_151) (fun _ h9 => h9) rfl (by decide +kernel) rfl rfl (Nat.le_of_ble_eq_true rfl) dX1_become_196 (fun H locs hP hD hS => ?_)
  have hP : va_P D gx_cl [(h0, .inr (0, [.ref a0, .ref a1, .ref a2, .ref a3, .ref a4, .ref a5, .ref a6, .ref a7, .ref a8, .int 0, .int 0, .int 0, .int 0, .int 1, .int 0, .int 0, .int 0])), (h1, .inr (0, [.ref b0, .ref b1, .ref b2, .ref b3, .ref b4, .ref b5, .ref b6, .ref b7, .ref b8, .int 0, .int 0, .int 0, .int 0, .int 1, .int 0, .int 0, .int 0])), (a0, .inl (k 0, 16, .inl f_1)), (a1, .inl (k 0, 16, .inl f_2)), (a2, .inl (k 0, 16, .inl f_3)), (a3, .inl (k 0, 16, .inl f_4)), (a4, .inl (k 0, 6, .inl f_5)), (a5, .inl (k 0, 6, .inl f_6)), (a6, .inl (k 0, 6, .inl f_7)), (a7, .inl (k 0, 6, .inl f_8)), (a8, .inl (k 0, 96, .inl f_9)), (b0, .inl (k 0, 16, .inl (fun _ => 0))), (b1, .inl (k 0, 16, .inl (fun _ => 0))), (b2, .inl (k 0, 16, .inl (fun _ => 0))), (b3, .inl (k 0, 16, .inl (fun _ => 0))), (b4, .inl (k 0, 6, .inl (fun _ => 0))), (b5, .inl (k 0, 6, .inl (fun _ => 0))), (b6, .inl (k 0, 6, .inl (fun _ => 0))), (b7, .inl (k 0, 6, .inl (fun _ => 0))), (b8, .inl (k 0, 96, .inl g8))] H := hP
  have hD : va_D A [(h0, .inr (0, [.ref a0, .ref a1, .ref a2, .ref a3, .ref a4, .ref a5, .ref a6, .ref a7, .ref a8, .int 0, .int 0, .int 0, .int 0, .int 1, .int 0, .int 0, .int 0])), (h1, .inr (0, [.ref b0, .ref b1, .ref b2, .ref b3, .ref b4, .ref b5, .ref b6, .ref b7, .ref b8, .int 0, .int 0, .int 0, .int 0, .int 1, .int 0, .int 0, .int 0])), (a0, .inl (k 0, 16, .inl f_1)), (a1, .inl (k 0, 16, .inl f_2)), (a2, .inl (k 0, 16, .inl f_3)), (a3, .inl (k 0, 16, .inl f_4)), (a4, .inl (k 0, 6, .inl f_5)), (a5, .inl (k 0, 6, .inl f_6)), (a6, .inl (k 0, 6, .inl f_7)), (a7, .inl (k 0, 6, .inl f_8)), (a8, .inl (k 0, 96, .inl f_9)), (b0, .inl (k 0, 16, .inl (fun _ => 0))), (b1, .inl (k 0, 16, .inl (fun _ => 0))), (b2, .inl (k 0, 16, .inl (fun _ => 0))), (b3, .inl (k 0, 16, .inl (fun _ => 0))), (b4, .inl (k 0, 6, .inl (fun _ => 0))), (b5, .inl (k 0, 6, .inl (fun _ => 0))), (b6, .inl (k 0, 6, .inl (fun _ => 0))), (b7, .inl (k 0, 6, .inl (fun _ => 0))), (b8, .inl (k 0, 96, .inl g8))] := hD
  have hP9 := gx_subP (wc := ([(h0, .inr (0, [.ref a0, .ref a1, .ref a2, .ref a3, .ref a4, .ref a5, .ref a6, .ref a7, .ref a8, .int 0, .int 0, .int 0, .int 0, .int 1, .int 0, .int 0, .int 0]))] : va_W)) hP [0] rfl
  have hD9 := hD.sub (ws' := ([(h0, .inr (0, [.ref a0, .ref a1, .ref a2, .ref a3, .ref a4, .ref a5, .ref a6, .ref a7, .ref a8, .int 0, .int 0, .int 0, .int 0, .int 1, .int 0, .int 0, .int 0]))] : va_W)) [0] (by decide) rfl
  exact gx_retV C (u := ()) hP9 hD9 hS (trivial) dX1_become_199
set_option maxHeartbeats 4000000 in
set_option maxRecDepth 100000 in
theorem k_goneInAll (l : Launch) (D : va_G) (k : Nat → ClassId) (h0 : Nat) (a0 : Nat) (a1 : Nat) (a2 : Nat) (a3 : Nat) (a4 : Nat) (a5 : Nat) (a6 : Nat) (a7 : Nat) (a8 : Nat) (sz : Nat) : Met l yX1_goneInAll (.code yX1_goneInAll cX1_goneInAll 3 (some .int) :: gx_T) ({ frames := 0, cells := 0, slots := 0, locals := 0 }) (gx_Pre D k [.ref h0] ([(h0, .inr (0, [.ref a0, .ref a1, .ref a2, .ref a3, .ref a4, .ref a5, .ref a6, .ref a7, .ref a8, .int 0, .int 0, .int 0, .int 0, .int 1, .int 0, .int 0, .int 0]))]) sz) (gx_Pi (fun r => r = 0)) 0 0 gx_No := by
  refine gx_metP (y := yX1_goneInAll) (cc := cX1_goneInAll) (n := 3) (ret := (some .int)) (av := [.ref h0]) (by decide) (Nat.le_of_ble_eq_true rfl) ?_
  intro p e s m below meth c ls C hP hD hK hS hl
  obtain ⟨hx, hb, hr, hml, hown, hT, hlk, hin⟩ := id C
  have hown : s.vm.findClass RX1 = some m.cls := hown
  have hl : lv_has ls 3 [(0, .ref h0)] := hl
  refine lv_iconst (v := 0) hx hb dX1_goneInAll_0 (by decide) ?_
  refine lv_istore_n (lv' := [(1, .int 0), (0, .ref h0)]) hx hb dX1_goneInAll_1 rfl hl (by decide) rfl (fun ls hl => ?_)
  refine lv_iconst (v := 0) hx hb dX1_goneInAll_2 (by decide) ?_
  refine lv_istore_n (lv' := [(2, .int 0), (1, .int 0), (0, .ref h0)]) hx hb dX1_goneInAll_3 rfl hl (by decide) rfl (fun ls hl => ?_)
  refine lv_iload_n hx hb dX1_goneInAll_4 rfl (lv_at hl 0 rfl) ?_
  refine lv_aload_n hx hb dX1_goneInAll_5 rfl (lv_at hl 2 rfl) ?_
  refine va_get (D := D) (ci := 0) (v := .int 0) (C := RX1) (T := TX1) (N := 17) hx hb hT iw_TX1 hown hK.1 hP 0 rfl rfl 10 (by decide) (hT _ wd_136) (fun _ h9 => h9) rfl dX1_goneInAll_6 ?_
  refine lv_icmp_ge (tgt := 27) hx hb dX1_goneInAll_9 (by decide) (fun c_1 => ?_) (fun c_1 => absurd (by decide) c_1)
  refine lv_iload_n hx hb dX1_goneInAll_27 rfl (lv_at hl 1 rfl) ?_
  exact gx_retP C hS (rfl) dX1_goneInAll_28
set_option maxHeartbeats 4000000 in
set_option maxRecDepth 100000 in
theorem k_append1 (l : Launch) (D : va_G) (k : Nat → ClassId) (h0 : Nat) (b0 : Nat) (v : Int32) (sz : Nat) : Met l yX4_append (.code yX4_append cX4_append 4 none :: gx_T) ({ frames := 0, cells := 0, slots := 0, locals := 0 }) (gx_Pre D k [.ref h0, .int v, .int 1] ([(h0, .inr (2, [.ref b0, .int 0, .int (-1), .int 0, .int 0, .int 0])), (b0, .inl (k 0, 250, .inl (fun _ => 0)))]) sz) (gx_Qv D (fun (u : Unit) => True) (fun (u : Unit) => ([(h0, .inr (2, [.ref b0, .int 1, .int (-1), .int 0, .int 0, .int 0]))] : va_W)) (va_A ([(h0, .inr (2, [.ref b0, .int 0, .int (-1), .int 0, .int 0, .int 0])), (b0, .inl (k 0, 250, .inl (fun _ => 0)))]) sz)) 0 0 (va_A ([(h0, .inr (2, [.ref b0, .int 0, .int (-1), .int 0, .int 0, .int 0])), (b0, .inl (k 0, 250, .inl (fun _ => 0)))]) sz) := by
  refine gx_metE (Qc := fun A => gx_Qv D (fun (u : Unit) => True) (fun (u : Unit) => ([(h0, .inr (2, [.ref b0, .int 1, .int (-1), .int 0, .int 0, .int 0]))] : va_W)) A) (y := yX4_append) (cc := cX4_append) (n := 4) (ret := none) (av := [.ref h0, .int v, .int 1]) (by decide) (Nat.le_of_ble_eq_true rfl) ?_
  intro p e s m below meth c A ls C hA hP hD hK hS hl
  obtain ⟨hx, hb, hr, hml, hown, hT, hlk, hin⟩ := id C
  have hown : s.vm.findClass RX4 = some m.cls := hown
  have hl : lv_has ls 4 [(0, .ref h0), (1, .int v), (2, .int 1)] := hl
  refine lv_iload_n hx hb dX4_append_0 rfl (lv_at hl 2 rfl) ?_
  refine lv_iconst (v := 1) hx hb dX4_append_1 (by decide) ?_
  refine lv_isub hx hb dX4_append_2 ?_
  refine gx_cst (v := 0) (by decide) ?_
  refine lv_istore_n (lv' := [(3, .int 0), (0, .ref h0), (1, .int v), (2, .int 1)]) hx hb dX4_append_3 rfl hl (by decide) rfl (fun ls hl => ?_)
  refine lv_iload_n hx hb dX4_append_4 rfl (lv_at hl 0 rfl) ?_
  refine lv_if_lt (tgt := 53) hx hb dX4_append_5 (by decide) (fun c_1 => absurd c_1 (by decide)) (fun c_1 => ?_)
  refine lv_aload_n hx hb dX4_append_8 rfl (lv_at hl 1 rfl) ?_
  refine va_get (D := D) (ci := 2) (v := .int 0) (C := RX4) (T := TX4) (N := 6) hx hb hT iw_TX4 hown hK.1 hP 0 rfl rfl 1 (by decide) (hT _ wd_196) (fun _ h9 => h9) rfl dX4_append_9 ?_
  refine lv_sipush (v := 250) hx hb dX4_append_12 (by decide) ?_
  refine lv_icmp_ge (tgt := 53) hx hb dX4_append_15 (by decide) (fun c_2 => absurd c_2 (by decide)) (fun c_2 => ?_)
  refine lv_aload_n hx hb dX4_append_18 rfl (lv_at hl 1 rfl) ?_
  refine va_get (D := D) (ci := 2) (v := .ref b0) (C := RX4) (T := TX4) (N := 6) hx hb hT iw_TX4 hown hK.1 hP 0 rfl rfl 0 (by decide) (hT _ wd_195) (fun _ h9 => h9) rfl dX4_append_19 ?_
  refine lv_aload_n hx hb dX4_append_22 rfl (lv_at hl 1 rfl) ?_
  refine va_get (D := D) (ci := 2) (v := .int 0) (C := RX4) (T := TX4) (N := 6) hx hb hT iw_TX4 hown hK.1 hP 0 rfl rfl 1 (by decide) (hT _ wd_196) (fun _ h9 => h9) rfl dX4_append_23 ?_
  refine lv_iload_n hx hb dX4_append_26 rfl (lv_at hl 2 rfl) ?_
  refine lv_bipush (v := 8) hx hb dX4_append_27 (by decide) ?_
  refine lv_iload_n hx hb dX4_append_29 rfl (lv_at hl 0 rfl) ?_
  refine lv_imul hx hb dX4_append_30 ?_
  refine gx_cst (v := 0) (by decide) ?_
  refine lv_ishr hx hb dX4_append_31 ?_
  refine lv_sipush (v := 255) hx hb dX4_append_32 (by decide) ?_
  refine lv_iand hx hb dX4_append_35 ?_
  refine va_iast hx hb hK.1 hP hD hS 1 0 rfl rfl (gx_vin rfl) dX4_append_36 (fun H locs hP hD hS => ?_)
  obtain ⟨f_3, ef_3⟩ : ∃ f9, f9 = upd ((fun _ => 0) : Nat → Int32) (0 : Int32).toNatClampNeg (((v >>> ((0 : Int32) &&& 31)) &&& (255 : Int32)) : Int32) := ⟨_, rfl⟩
  have hP : va_P D gx_cl [(h0, .inr (2, [.ref b0, .int 0, .int (-1), .int 0, .int 0, .int 0])), (b0, .inl (k 0, 250, .inl f_3))] H := by subst ef_3; exact hP
  have hD : va_D A [(h0, .inr (2, [.ref b0, .int 0, .int (-1), .int 0, .int 0, .int 0])), (b0, .inl (k 0, 250, .inl f_3))] := by subst ef_3; exact hD
  refine lv_aload_n hx hb dX4_append_37 rfl (lv_at hl 1 rfl) ?_
  refine lv_dup hx hb dX4_append_38 rfl ?_
  refine va_get (D := D) (ci := 2) (v := .int 0) (C := RX4) (T := TX4) (N := 6) hx hb hT iw_TX4 hown hK.1 hP 0 rfl rfl 1 (by decide) (hT _ wd_196) (fun _ h9 => h9) rfl dX4_append_39 ?_
  refine lv_iconst (v := 1) hx hb dX4_append_42 (by decide) ?_
  refine lv_iadd hx hb dX4_append_43 ?_
  refine gx_cst (v := 1) (by decide) ?_
  refine va_put (D := D) (ci := 2) (v := .int 1) (ty := .int) (C := RX4) (T := TX4) (N := 6) hx hb hT iw_TX4 tyX4 tyX4_ok nmX4 hown hK.1 hP hD hS 0 rfl rfl 1 (by decide) (hT _ wd_196) (fun _ h9 => h9) rfl (by decide +kernel) rfl rfl (Nat.le_of_ble_eq_true rfl) dX4_append_44 (fun H locs hP hD hS => ?_)
  have hP : va_P D gx_cl [(h0, .inr (2, [.ref b0, .int 1, .int (-1), .int 0, .int 0, .int 0])), (b0, .inl (k 0, 250, .inl f_3))] H := hP
  have hD : va_D A [(h0, .inr (2, [.ref b0, .int 1, .int (-1), .int 0, .int 0, .int 0])), (b0, .inl (k 0, 250, .inl f_3))] := hD
  refine lv_iinc (v := (-1)) (lv' := [(3, .int (-1)), (0, .ref h0), (1, .int v), (2, .int 1)]) hx hb dX4_append_47 hl (k := 0) rfl (by decide) (by decide) rfl (fun ls hl => ?_)
  refine lv_goto (tgt := 4) hx hb dX4_append_50 (by decide) ?_
  refine lv_iload_n hx hb dX4_append_4 rfl (lv_at hl 0 rfl) ?_
  refine lv_if_lt (tgt := 53) hx hb dX4_append_5 (by decide) (fun c_4 => ?_) (fun c_4 => absurd (by decide) c_4)
  have hP9 := gx_subP (wc := ([(h0, .inr (2, [.ref b0, .int 1, .int (-1), .int 0, .int 0, .int 0]))] : va_W)) hP [0] rfl
  have hD9 := hD.sub (ws' := ([(h0, .inr (2, [.ref b0, .int 1, .int (-1), .int 0, .int 0, .int 0]))] : va_W)) [0] (by decide) rfl
  exact gx_retV C (u := ()) hP9 hD9 hS (trivial) dX4_append_53
set_option maxHeartbeats 4000000 in
set_option maxRecDepth 100000 in
theorem k_append2 (l : Launch) (D : va_G) (k : Nat → ClassId) (h0 : Nat) (b0 : Nat) (v : Int32) (sz : Nat) : Met l yX4_append (.code yX4_append cX4_append 4 none :: gx_T) ({ frames := 0, cells := 0, slots := 0, locals := 0 }) (gx_Pre D k [.ref h0, .int v, .int 2] ([(h0, .inr (2, [.ref b0, .int 0, .int (-1), .int 0, .int 0, .int 0])), (b0, .inl (k 0, 250, .inl (fun _ => 0)))]) sz) (gx_Qv D (fun (u : Unit) => True) (fun (u : Unit) => ([(h0, .inr (2, [.ref b0, .int 2, .int (-1), .int 0, .int 0, .int 0]))] : va_W)) (va_A ([(h0, .inr (2, [.ref b0, .int 0, .int (-1), .int 0, .int 0, .int 0])), (b0, .inl (k 0, 250, .inl (fun _ => 0)))]) sz)) 0 0 (va_A ([(h0, .inr (2, [.ref b0, .int 0, .int (-1), .int 0, .int 0, .int 0])), (b0, .inl (k 0, 250, .inl (fun _ => 0)))]) sz) := by
  refine gx_metE (Qc := fun A => gx_Qv D (fun (u : Unit) => True) (fun (u : Unit) => ([(h0, .inr (2, [.ref b0, .int 2, .int (-1), .int 0, .int 0, .int 0]))] : va_W)) A) (y := yX4_append) (cc := cX4_append) (n := 4) (ret := none) (av := [.ref h0, .int v, .int 2]) (by decide) (Nat.le_of_ble_eq_true rfl) ?_
  intro p e s m below meth c A ls C hA hP hD hK hS hl
  obtain ⟨hx, hb, hr, hml, hown, hT, hlk, hin⟩ := id C
  have hown : s.vm.findClass RX4 = some m.cls := hown
  have hl : lv_has ls 4 [(0, .ref h0), (1, .int v), (2, .int 2)] := hl
  refine lv_iload_n hx hb dX4_append_0 rfl (lv_at hl 2 rfl) ?_
  refine lv_iconst (v := 1) hx hb dX4_append_1 (by decide) ?_
  refine lv_isub hx hb dX4_append_2 ?_
  refine gx_cst (v := 1) (by decide) ?_
  refine lv_istore_n (lv' := [(3, .int 1), (0, .ref h0), (1, .int v), (2, .int 2)]) hx hb dX4_append_3 rfl hl (by decide) rfl (fun ls hl => ?_)
  refine lv_iload_n hx hb dX4_append_4 rfl (lv_at hl 0 rfl) ?_
  refine lv_if_lt (tgt := 53) hx hb dX4_append_5 (by decide) (fun c_1 => absurd c_1 (by decide)) (fun c_1 => ?_)
  refine lv_aload_n hx hb dX4_append_8 rfl (lv_at hl 1 rfl) ?_
  refine va_get (D := D) (ci := 2) (v := .int 0) (C := RX4) (T := TX4) (N := 6) hx hb hT iw_TX4 hown hK.1 hP 0 rfl rfl 1 (by decide) (hT _ wd_196) (fun _ h9 => h9) rfl dX4_append_9 ?_
  refine lv_sipush (v := 250) hx hb dX4_append_12 (by decide) ?_
  refine lv_icmp_ge (tgt := 53) hx hb dX4_append_15 (by decide) (fun c_2 => absurd c_2 (by decide)) (fun c_2 => ?_)
  refine lv_aload_n hx hb dX4_append_18 rfl (lv_at hl 1 rfl) ?_
  refine va_get (D := D) (ci := 2) (v := .ref b0) (C := RX4) (T := TX4) (N := 6) hx hb hT iw_TX4 hown hK.1 hP 0 rfl rfl 0 (by decide) (hT _ wd_195) (fun _ h9 => h9) rfl dX4_append_19 ?_
  refine lv_aload_n hx hb dX4_append_22 rfl (lv_at hl 1 rfl) ?_
  refine va_get (D := D) (ci := 2) (v := .int 0) (C := RX4) (T := TX4) (N := 6) hx hb hT iw_TX4 hown hK.1 hP 0 rfl rfl 1 (by decide) (hT _ wd_196) (fun _ h9 => h9) rfl dX4_append_23 ?_
  refine lv_iload_n hx hb dX4_append_26 rfl (lv_at hl 2 rfl) ?_
  refine lv_bipush (v := 8) hx hb dX4_append_27 (by decide) ?_
  refine lv_iload_n hx hb dX4_append_29 rfl (lv_at hl 0 rfl) ?_
  refine lv_imul hx hb dX4_append_30 ?_
  refine gx_cst (v := 8) (by decide) ?_
  refine lv_ishr hx hb dX4_append_31 ?_
  refine lv_sipush (v := 255) hx hb dX4_append_32 (by decide) ?_
  refine lv_iand hx hb dX4_append_35 ?_
  refine va_iast hx hb hK.1 hP hD hS 1 0 rfl rfl (gx_vin rfl) dX4_append_36 (fun H locs hP hD hS => ?_)
  obtain ⟨f_3, ef_3⟩ : ∃ f9, f9 = upd ((fun _ => 0) : Nat → Int32) (0 : Int32).toNatClampNeg (((v >>> ((8 : Int32) &&& 31)) &&& (255 : Int32)) : Int32) := ⟨_, rfl⟩
  have hP : va_P D gx_cl [(h0, .inr (2, [.ref b0, .int 0, .int (-1), .int 0, .int 0, .int 0])), (b0, .inl (k 0, 250, .inl f_3))] H := by subst ef_3; exact hP
  have hD : va_D A [(h0, .inr (2, [.ref b0, .int 0, .int (-1), .int 0, .int 0, .int 0])), (b0, .inl (k 0, 250, .inl f_3))] := by subst ef_3; exact hD
  refine lv_aload_n hx hb dX4_append_37 rfl (lv_at hl 1 rfl) ?_
  refine lv_dup hx hb dX4_append_38 rfl ?_
  refine va_get (D := D) (ci := 2) (v := .int 0) (C := RX4) (T := TX4) (N := 6) hx hb hT iw_TX4 hown hK.1 hP 0 rfl rfl 1 (by decide) (hT _ wd_196) (fun _ h9 => h9) rfl dX4_append_39 ?_
  refine lv_iconst (v := 1) hx hb dX4_append_42 (by decide) ?_
  refine lv_iadd hx hb dX4_append_43 ?_
  refine gx_cst (v := 1) (by decide) ?_
  refine va_put (D := D) (ci := 2) (v := .int 1) (ty := .int) (C := RX4) (T := TX4) (N := 6) hx hb hT iw_TX4 tyX4 tyX4_ok nmX4 hown hK.1 hP hD hS 0 rfl rfl 1 (by decide) (hT _ wd_196) (fun _ h9 => h9) rfl (by decide +kernel) rfl rfl (Nat.le_of_ble_eq_true rfl) dX4_append_44 (fun H locs hP hD hS => ?_)
  have hP : va_P D gx_cl [(h0, .inr (2, [.ref b0, .int 1, .int (-1), .int 0, .int 0, .int 0])), (b0, .inl (k 0, 250, .inl f_3))] H := hP
  have hD : va_D A [(h0, .inr (2, [.ref b0, .int 1, .int (-1), .int 0, .int 0, .int 0])), (b0, .inl (k 0, 250, .inl f_3))] := hD
  refine lv_iinc (v := 0) (lv' := [(3, .int 0), (0, .ref h0), (1, .int v), (2, .int 2)]) hx hb dX4_append_47 hl (k := 0) rfl (by decide) (by decide) rfl (fun ls hl => ?_)
  refine lv_goto (tgt := 4) hx hb dX4_append_50 (by decide) ?_
  refine lv_iload_n hx hb dX4_append_4 rfl (lv_at hl 0 rfl) ?_
  refine lv_if_lt (tgt := 53) hx hb dX4_append_5 (by decide) (fun c_4 => absurd c_4 (by decide)) (fun c_4 => ?_)
  refine lv_aload_n hx hb dX4_append_8 rfl (lv_at hl 1 rfl) ?_
  refine va_get (D := D) (ci := 2) (v := .int 1) (C := RX4) (T := TX4) (N := 6) hx hb hT iw_TX4 hown hK.1 hP 0 rfl rfl 1 (by decide) (hT _ wd_196) (fun _ h9 => h9) rfl dX4_append_9 ?_
  refine lv_sipush (v := 250) hx hb dX4_append_12 (by decide) ?_
  refine lv_icmp_ge (tgt := 53) hx hb dX4_append_15 (by decide) (fun c_5 => absurd c_5 (by decide)) (fun c_5 => ?_)
  refine lv_aload_n hx hb dX4_append_18 rfl (lv_at hl 1 rfl) ?_
  refine va_get (D := D) (ci := 2) (v := .ref b0) (C := RX4) (T := TX4) (N := 6) hx hb hT iw_TX4 hown hK.1 hP 0 rfl rfl 0 (by decide) (hT _ wd_195) (fun _ h9 => h9) rfl dX4_append_19 ?_
  refine lv_aload_n hx hb dX4_append_22 rfl (lv_at hl 1 rfl) ?_
  refine va_get (D := D) (ci := 2) (v := .int 1) (C := RX4) (T := TX4) (N := 6) hx hb hT iw_TX4 hown hK.1 hP 0 rfl rfl 1 (by decide) (hT _ wd_196) (fun _ h9 => h9) rfl dX4_append_23 ?_
  refine lv_iload_n hx hb dX4_append_26 rfl (lv_at hl 2 rfl) ?_
  refine lv_bipush (v := 8) hx hb dX4_append_27 (by decide) ?_
  refine lv_iload_n hx hb dX4_append_29 rfl (lv_at hl 0 rfl) ?_
  refine lv_imul hx hb dX4_append_30 ?_
  refine gx_cst (v := 0) (by decide) ?_
  refine lv_ishr hx hb dX4_append_31 ?_
  refine lv_sipush (v := 255) hx hb dX4_append_32 (by decide) ?_
  refine lv_iand hx hb dX4_append_35 ?_
  refine va_iast hx hb hK.1 hP hD hS 1 0 rfl rfl (gx_vin rfl) dX4_append_36 (fun H locs hP hD hS => ?_)
  obtain ⟨f_6, ef_6⟩ : ∃ f9, f9 = upd f_3 (1 : Int32).toNatClampNeg (((v >>> ((0 : Int32) &&& 31)) &&& (255 : Int32)) : Int32) := ⟨_, rfl⟩
  have hP : va_P D gx_cl [(h0, .inr (2, [.ref b0, .int 1, .int (-1), .int 0, .int 0, .int 0])), (b0, .inl (k 0, 250, .inl f_6))] H := by subst ef_6; exact hP
  have hD : va_D A [(h0, .inr (2, [.ref b0, .int 1, .int (-1), .int 0, .int 0, .int 0])), (b0, .inl (k 0, 250, .inl f_6))] := by subst ef_6; exact hD
  refine lv_aload_n hx hb dX4_append_37 rfl (lv_at hl 1 rfl) ?_
  refine lv_dup hx hb dX4_append_38 rfl ?_
  refine va_get (D := D) (ci := 2) (v := .int 1) (C := RX4) (T := TX4) (N := 6) hx hb hT iw_TX4 hown hK.1 hP 0 rfl rfl 1 (by decide) (hT _ wd_196) (fun _ h9 => h9) rfl dX4_append_39 ?_
  refine lv_iconst (v := 1) hx hb dX4_append_42 (by decide) ?_
  refine lv_iadd hx hb dX4_append_43 ?_
  refine gx_cst (v := 2) (by decide) ?_
  refine va_put (D := D) (ci := 2) (v := .int 2) (ty := .int) (C := RX4) (T := TX4) (N := 6) hx hb hT iw_TX4 tyX4 tyX4_ok nmX4 hown hK.1 hP hD hS 0 rfl rfl 1 (by decide) (hT _ wd_196) (fun _ h9 => h9) rfl (by decide +kernel) rfl rfl (Nat.le_of_ble_eq_true rfl) dX4_append_44 (fun H locs hP hD hS => ?_)
  have hP : va_P D gx_cl [(h0, .inr (2, [.ref b0, .int 2, .int (-1), .int 0, .int 0, .int 0])), (b0, .inl (k 0, 250, .inl f_6))] H := hP
  have hD : va_D A [(h0, .inr (2, [.ref b0, .int 2, .int (-1), .int 0, .int 0, .int 0])), (b0, .inl (k 0, 250, .inl f_6))] := hD
  refine lv_iinc (v := (-1)) (lv' := [(3, .int (-1)), (0, .ref h0), (1, .int v), (2, .int 2)]) hx hb dX4_append_47 hl (k := 0) rfl (by decide) (by decide) rfl (fun ls hl => ?_)
  refine lv_goto (tgt := 4) hx hb dX4_append_50 (by decide) ?_
  refine lv_iload_n hx hb dX4_append_4 rfl (lv_at hl 0 rfl) ?_
  refine lv_if_lt (tgt := 53) hx hb dX4_append_5 (by decide) (fun c_7 => ?_) (fun c_7 => absurd (by decide) c_7)
  have hP9 := gx_subP (wc := ([(h0, .inr (2, [.ref b0, .int 2, .int (-1), .int 0, .int 0, .int 0]))] : va_W)) hP [0] rfl
  have hD9 := hD.sub (ws' := ([(h0, .inr (2, [.ref b0, .int 2, .int (-1), .int 0, .int 0, .int 0]))] : va_W)) [0] (by decide) rfl
  exact gx_retV C (u := ()) hP9 hD9 hS (trivial) dX4_append_53
set_option maxHeartbeats 4000000 in
set_option maxRecDepth 100000 in
theorem k_append3 (l : Launch) (D : va_G) (k : Nat → ClassId) (h0 : Nat) (b0 : Nat) (v : Int32) (sz : Nat) : Met l yX4_append (.code yX4_append cX4_append 4 none :: gx_T) ({ frames := 0, cells := 0, slots := 0, locals := 0 }) (gx_Pre D k [.ref h0, .int v, .int 3] ([(h0, .inr (2, [.ref b0, .int 0, .int (-1), .int 0, .int 0, .int 0])), (b0, .inl (k 0, 250, .inl (fun _ => 0)))]) sz) (gx_Qv D (fun (u : Unit) => True) (fun (u : Unit) => ([(h0, .inr (2, [.ref b0, .int 3, .int (-1), .int 0, .int 0, .int 0]))] : va_W)) (va_A ([(h0, .inr (2, [.ref b0, .int 0, .int (-1), .int 0, .int 0, .int 0])), (b0, .inl (k 0, 250, .inl (fun _ => 0)))]) sz)) 0 0 (va_A ([(h0, .inr (2, [.ref b0, .int 0, .int (-1), .int 0, .int 0, .int 0])), (b0, .inl (k 0, 250, .inl (fun _ => 0)))]) sz) := by
  refine gx_metE (Qc := fun A => gx_Qv D (fun (u : Unit) => True) (fun (u : Unit) => ([(h0, .inr (2, [.ref b0, .int 3, .int (-1), .int 0, .int 0, .int 0]))] : va_W)) A) (y := yX4_append) (cc := cX4_append) (n := 4) (ret := none) (av := [.ref h0, .int v, .int 3]) (by decide) (Nat.le_of_ble_eq_true rfl) ?_
  intro p e s m below meth c A ls C hA hP hD hK hS hl
  obtain ⟨hx, hb, hr, hml, hown, hT, hlk, hin⟩ := id C
  have hown : s.vm.findClass RX4 = some m.cls := hown
  have hl : lv_has ls 4 [(0, .ref h0), (1, .int v), (2, .int 3)] := hl
  refine lv_iload_n hx hb dX4_append_0 rfl (lv_at hl 2 rfl) ?_
  refine lv_iconst (v := 1) hx hb dX4_append_1 (by decide) ?_
  refine lv_isub hx hb dX4_append_2 ?_
  refine gx_cst (v := 2) (by decide) ?_
  refine lv_istore_n (lv' := [(3, .int 2), (0, .ref h0), (1, .int v), (2, .int 3)]) hx hb dX4_append_3 rfl hl (by decide) rfl (fun ls hl => ?_)
  refine lv_iload_n hx hb dX4_append_4 rfl (lv_at hl 0 rfl) ?_
  refine lv_if_lt (tgt := 53) hx hb dX4_append_5 (by decide) (fun c_1 => absurd c_1 (by decide)) (fun c_1 => ?_)
  refine lv_aload_n hx hb dX4_append_8 rfl (lv_at hl 1 rfl) ?_
  refine va_get (D := D) (ci := 2) (v := .int 0) (C := RX4) (T := TX4) (N := 6) hx hb hT iw_TX4 hown hK.1 hP 0 rfl rfl 1 (by decide) (hT _ wd_196) (fun _ h9 => h9) rfl dX4_append_9 ?_
  refine lv_sipush (v := 250) hx hb dX4_append_12 (by decide) ?_
  refine lv_icmp_ge (tgt := 53) hx hb dX4_append_15 (by decide) (fun c_2 => absurd c_2 (by decide)) (fun c_2 => ?_)
  refine lv_aload_n hx hb dX4_append_18 rfl (lv_at hl 1 rfl) ?_
  refine va_get (D := D) (ci := 2) (v := .ref b0) (C := RX4) (T := TX4) (N := 6) hx hb hT iw_TX4 hown hK.1 hP 0 rfl rfl 0 (by decide) (hT _ wd_195) (fun _ h9 => h9) rfl dX4_append_19 ?_
  refine lv_aload_n hx hb dX4_append_22 rfl (lv_at hl 1 rfl) ?_
  refine va_get (D := D) (ci := 2) (v := .int 0) (C := RX4) (T := TX4) (N := 6) hx hb hT iw_TX4 hown hK.1 hP 0 rfl rfl 1 (by decide) (hT _ wd_196) (fun _ h9 => h9) rfl dX4_append_23 ?_
  refine lv_iload_n hx hb dX4_append_26 rfl (lv_at hl 2 rfl) ?_
  refine lv_bipush (v := 8) hx hb dX4_append_27 (by decide) ?_
  refine lv_iload_n hx hb dX4_append_29 rfl (lv_at hl 0 rfl) ?_
  refine lv_imul hx hb dX4_append_30 ?_
  refine gx_cst (v := 16) (by decide) ?_
  refine lv_ishr hx hb dX4_append_31 ?_
  refine lv_sipush (v := 255) hx hb dX4_append_32 (by decide) ?_
  refine lv_iand hx hb dX4_append_35 ?_
  refine va_iast hx hb hK.1 hP hD hS 1 0 rfl rfl (gx_vin rfl) dX4_append_36 (fun H locs hP hD hS => ?_)
  obtain ⟨f_3, ef_3⟩ : ∃ f9, f9 = upd ((fun _ => 0) : Nat → Int32) (0 : Int32).toNatClampNeg (((v >>> ((16 : Int32) &&& 31)) &&& (255 : Int32)) : Int32) := ⟨_, rfl⟩
  have hP : va_P D gx_cl [(h0, .inr (2, [.ref b0, .int 0, .int (-1), .int 0, .int 0, .int 0])), (b0, .inl (k 0, 250, .inl f_3))] H := by subst ef_3; exact hP
  have hD : va_D A [(h0, .inr (2, [.ref b0, .int 0, .int (-1), .int 0, .int 0, .int 0])), (b0, .inl (k 0, 250, .inl f_3))] := by subst ef_3; exact hD
  refine lv_aload_n hx hb dX4_append_37 rfl (lv_at hl 1 rfl) ?_
  refine lv_dup hx hb dX4_append_38 rfl ?_
  refine va_get (D := D) (ci := 2) (v := .int 0) (C := RX4) (T := TX4) (N := 6) hx hb hT iw_TX4 hown hK.1 hP 0 rfl rfl 1 (by decide) (hT _ wd_196) (fun _ h9 => h9) rfl dX4_append_39 ?_
  refine lv_iconst (v := 1) hx hb dX4_append_42 (by decide) ?_
  refine lv_iadd hx hb dX4_append_43 ?_
  refine gx_cst (v := 1) (by decide) ?_
  refine va_put (D := D) (ci := 2) (v := .int 1) (ty := .int) (C := RX4) (T := TX4) (N := 6) hx hb hT iw_TX4 tyX4 tyX4_ok nmX4 hown hK.1 hP hD hS 0 rfl rfl 1 (by decide) (hT _ wd_196) (fun _ h9 => h9) rfl (by decide +kernel) rfl rfl (Nat.le_of_ble_eq_true rfl) dX4_append_44 (fun H locs hP hD hS => ?_)
  have hP : va_P D gx_cl [(h0, .inr (2, [.ref b0, .int 1, .int (-1), .int 0, .int 0, .int 0])), (b0, .inl (k 0, 250, .inl f_3))] H := hP
  have hD : va_D A [(h0, .inr (2, [.ref b0, .int 1, .int (-1), .int 0, .int 0, .int 0])), (b0, .inl (k 0, 250, .inl f_3))] := hD
  refine lv_iinc (v := 1) (lv' := [(3, .int 1), (0, .ref h0), (1, .int v), (2, .int 3)]) hx hb dX4_append_47 hl (k := 0) rfl (by decide) (by decide) rfl (fun ls hl => ?_)
  refine lv_goto (tgt := 4) hx hb dX4_append_50 (by decide) ?_
  refine lv_iload_n hx hb dX4_append_4 rfl (lv_at hl 0 rfl) ?_
  refine lv_if_lt (tgt := 53) hx hb dX4_append_5 (by decide) (fun c_4 => absurd c_4 (by decide)) (fun c_4 => ?_)
  refine lv_aload_n hx hb dX4_append_8 rfl (lv_at hl 1 rfl) ?_
  refine va_get (D := D) (ci := 2) (v := .int 1) (C := RX4) (T := TX4) (N := 6) hx hb hT iw_TX4 hown hK.1 hP 0 rfl rfl 1 (by decide) (hT _ wd_196) (fun _ h9 => h9) rfl dX4_append_9 ?_
  refine lv_sipush (v := 250) hx hb dX4_append_12 (by decide) ?_
  refine lv_icmp_ge (tgt := 53) hx hb dX4_append_15 (by decide) (fun c_5 => absurd c_5 (by decide)) (fun c_5 => ?_)
  refine lv_aload_n hx hb dX4_append_18 rfl (lv_at hl 1 rfl) ?_
  refine va_get (D := D) (ci := 2) (v := .ref b0) (C := RX4) (T := TX4) (N := 6) hx hb hT iw_TX4 hown hK.1 hP 0 rfl rfl 0 (by decide) (hT _ wd_195) (fun _ h9 => h9) rfl dX4_append_19 ?_
  refine lv_aload_n hx hb dX4_append_22 rfl (lv_at hl 1 rfl) ?_
  refine va_get (D := D) (ci := 2) (v := .int 1) (C := RX4) (T := TX4) (N := 6) hx hb hT iw_TX4 hown hK.1 hP 0 rfl rfl 1 (by decide) (hT _ wd_196) (fun _ h9 => h9) rfl dX4_append_23 ?_
  refine lv_iload_n hx hb dX4_append_26 rfl (lv_at hl 2 rfl) ?_
  refine lv_bipush (v := 8) hx hb dX4_append_27 (by decide) ?_
  refine lv_iload_n hx hb dX4_append_29 rfl (lv_at hl 0 rfl) ?_
  refine lv_imul hx hb dX4_append_30 ?_
  refine gx_cst (v := 8) (by decide) ?_
  refine lv_ishr hx hb dX4_append_31 ?_
  refine lv_sipush (v := 255) hx hb dX4_append_32 (by decide) ?_
  refine lv_iand hx hb dX4_append_35 ?_
  refine va_iast hx hb hK.1 hP hD hS 1 0 rfl rfl (gx_vin rfl) dX4_append_36 (fun H locs hP hD hS => ?_)
  obtain ⟨f_6, ef_6⟩ : ∃ f9, f9 = upd f_3 (1 : Int32).toNatClampNeg (((v >>> ((8 : Int32) &&& 31)) &&& (255 : Int32)) : Int32) := ⟨_, rfl⟩
  have hP : va_P D gx_cl [(h0, .inr (2, [.ref b0, .int 1, .int (-1), .int 0, .int 0, .int 0])), (b0, .inl (k 0, 250, .inl f_6))] H := by subst ef_6; exact hP
  have hD : va_D A [(h0, .inr (2, [.ref b0, .int 1, .int (-1), .int 0, .int 0, .int 0])), (b0, .inl (k 0, 250, .inl f_6))] := by subst ef_6; exact hD
  refine lv_aload_n hx hb dX4_append_37 rfl (lv_at hl 1 rfl) ?_
  refine lv_dup hx hb dX4_append_38 rfl ?_
  refine va_get (D := D) (ci := 2) (v := .int 1) (C := RX4) (T := TX4) (N := 6) hx hb hT iw_TX4 hown hK.1 hP 0 rfl rfl 1 (by decide) (hT _ wd_196) (fun _ h9 => h9) rfl dX4_append_39 ?_
  refine lv_iconst (v := 1) hx hb dX4_append_42 (by decide) ?_
  refine lv_iadd hx hb dX4_append_43 ?_
  refine gx_cst (v := 2) (by decide) ?_
  refine va_put (D := D) (ci := 2) (v := .int 2) (ty := .int) (C := RX4) (T := TX4) (N := 6) hx hb hT iw_TX4 tyX4 tyX4_ok nmX4 hown hK.1 hP hD hS 0 rfl rfl 1 (by decide) (hT _ wd_196) (fun _ h9 => h9) rfl (by decide +kernel) rfl rfl (Nat.le_of_ble_eq_true rfl) dX4_append_44 (fun H locs hP hD hS => ?_)
  have hP : va_P D gx_cl [(h0, .inr (2, [.ref b0, .int 2, .int (-1), .int 0, .int 0, .int 0])), (b0, .inl (k 0, 250, .inl f_6))] H := hP
  have hD : va_D A [(h0, .inr (2, [.ref b0, .int 2, .int (-1), .int 0, .int 0, .int 0])), (b0, .inl (k 0, 250, .inl f_6))] := hD
  refine lv_iinc (v := 0) (lv' := [(3, .int 0), (0, .ref h0), (1, .int v), (2, .int 3)]) hx hb dX4_append_47 hl (k := 0) rfl (by decide) (by decide) rfl (fun ls hl => ?_)
  refine lv_goto (tgt := 4) hx hb dX4_append_50 (by decide) ?_
  refine lv_iload_n hx hb dX4_append_4 rfl (lv_at hl 0 rfl) ?_
  refine lv_if_lt (tgt := 53) hx hb dX4_append_5 (by decide) (fun c_7 => absurd c_7 (by decide)) (fun c_7 => ?_)
  refine lv_aload_n hx hb dX4_append_8 rfl (lv_at hl 1 rfl) ?_
  refine va_get (D := D) (ci := 2) (v := .int 2) (C := RX4) (T := TX4) (N := 6) hx hb hT iw_TX4 hown hK.1 hP 0 rfl rfl 1 (by decide) (hT _ wd_196) (fun _ h9 => h9) rfl dX4_append_9 ?_
  refine lv_sipush (v := 250) hx hb dX4_append_12 (by decide) ?_
  refine lv_icmp_ge (tgt := 53) hx hb dX4_append_15 (by decide) (fun c_8 => absurd c_8 (by decide)) (fun c_8 => ?_)
  refine lv_aload_n hx hb dX4_append_18 rfl (lv_at hl 1 rfl) ?_
  refine va_get (D := D) (ci := 2) (v := .ref b0) (C := RX4) (T := TX4) (N := 6) hx hb hT iw_TX4 hown hK.1 hP 0 rfl rfl 0 (by decide) (hT _ wd_195) (fun _ h9 => h9) rfl dX4_append_19 ?_
  refine lv_aload_n hx hb dX4_append_22 rfl (lv_at hl 1 rfl) ?_
  refine va_get (D := D) (ci := 2) (v := .int 2) (C := RX4) (T := TX4) (N := 6) hx hb hT iw_TX4 hown hK.1 hP 0 rfl rfl 1 (by decide) (hT _ wd_196) (fun _ h9 => h9) rfl dX4_append_23 ?_
  refine lv_iload_n hx hb dX4_append_26 rfl (lv_at hl 2 rfl) ?_
  refine lv_bipush (v := 8) hx hb dX4_append_27 (by decide) ?_
  refine lv_iload_n hx hb dX4_append_29 rfl (lv_at hl 0 rfl) ?_
  refine lv_imul hx hb dX4_append_30 ?_
  refine gx_cst (v := 0) (by decide) ?_
  refine lv_ishr hx hb dX4_append_31 ?_
  refine lv_sipush (v := 255) hx hb dX4_append_32 (by decide) ?_
  refine lv_iand hx hb dX4_append_35 ?_
  refine va_iast hx hb hK.1 hP hD hS 1 0 rfl rfl (gx_vin rfl) dX4_append_36 (fun H locs hP hD hS => ?_)
  obtain ⟨f_9, ef_9⟩ : ∃ f9, f9 = upd f_6 (2 : Int32).toNatClampNeg (((v >>> ((0 : Int32) &&& 31)) &&& (255 : Int32)) : Int32) := ⟨_, rfl⟩
  have hP : va_P D gx_cl [(h0, .inr (2, [.ref b0, .int 2, .int (-1), .int 0, .int 0, .int 0])), (b0, .inl (k 0, 250, .inl f_9))] H := by subst ef_9; exact hP
  have hD : va_D A [(h0, .inr (2, [.ref b0, .int 2, .int (-1), .int 0, .int 0, .int 0])), (b0, .inl (k 0, 250, .inl f_9))] := by subst ef_9; exact hD
  refine lv_aload_n hx hb dX4_append_37 rfl (lv_at hl 1 rfl) ?_
  refine lv_dup hx hb dX4_append_38 rfl ?_
  refine va_get (D := D) (ci := 2) (v := .int 2) (C := RX4) (T := TX4) (N := 6) hx hb hT iw_TX4 hown hK.1 hP 0 rfl rfl 1 (by decide) (hT _ wd_196) (fun _ h9 => h9) rfl dX4_append_39 ?_
  refine lv_iconst (v := 1) hx hb dX4_append_42 (by decide) ?_
  refine lv_iadd hx hb dX4_append_43 ?_
  refine gx_cst (v := 3) (by decide) ?_
  refine va_put (D := D) (ci := 2) (v := .int 3) (ty := .int) (C := RX4) (T := TX4) (N := 6) hx hb hT iw_TX4 tyX4 tyX4_ok nmX4 hown hK.1 hP hD hS 0 rfl rfl 1 (by decide) (hT _ wd_196) (fun _ h9 => h9) rfl (by decide +kernel) rfl rfl (Nat.le_of_ble_eq_true rfl) dX4_append_44 (fun H locs hP hD hS => ?_)
  have hP : va_P D gx_cl [(h0, .inr (2, [.ref b0, .int 3, .int (-1), .int 0, .int 0, .int 0])), (b0, .inl (k 0, 250, .inl f_9))] H := hP
  have hD : va_D A [(h0, .inr (2, [.ref b0, .int 3, .int (-1), .int 0, .int 0, .int 0])), (b0, .inl (k 0, 250, .inl f_9))] := hD
  refine lv_iinc (v := (-1)) (lv' := [(3, .int (-1)), (0, .ref h0), (1, .int v), (2, .int 3)]) hx hb dX4_append_47 hl (k := 0) rfl (by decide) (by decide) rfl (fun ls hl => ?_)
  refine lv_goto (tgt := 4) hx hb dX4_append_50 (by decide) ?_
  refine lv_iload_n hx hb dX4_append_4 rfl (lv_at hl 0 rfl) ?_
  refine lv_if_lt (tgt := 53) hx hb dX4_append_5 (by decide) (fun c_10 => ?_) (fun c_10 => absurd (by decide) c_10)
  have hP9 := gx_subP (wc := ([(h0, .inr (2, [.ref b0, .int 3, .int (-1), .int 0, .int 0, .int 0]))] : va_W)) hP [0] rfl
  have hD9 := hD.sub (ws' := ([(h0, .inr (2, [.ref b0, .int 3, .int (-1), .int 0, .int 0, .int 0]))] : va_W)) [0] (by decide) rfl
  exact gx_retV C (u := ()) hP9 hD9 hS (trivial) dX4_append_53
set_option maxHeartbeats 4000000 in
set_option maxRecDepth 100000 in
theorem k_append4 (l : Launch) (D : va_G) (k : Nat → ClassId) (h0 : Nat) (b0 : Nat) (v : Int32) (sz : Nat) : Met l yX4_append (.code yX4_append cX4_append 4 none :: gx_T) ({ frames := 0, cells := 0, slots := 0, locals := 0 }) (gx_Pre D k [.ref h0, .int v, .int 4] ([(h0, .inr (2, [.ref b0, .int 0, .int (-1), .int 0, .int 0, .int 0])), (b0, .inl (k 0, 250, .inl (fun _ => 0)))]) sz) (gx_Qv D (fun (u : Unit) => True) (fun (u : Unit) => ([(h0, .inr (2, [.ref b0, .int 4, .int (-1), .int 0, .int 0, .int 0]))] : va_W)) (va_A ([(h0, .inr (2, [.ref b0, .int 0, .int (-1), .int 0, .int 0, .int 0])), (b0, .inl (k 0, 250, .inl (fun _ => 0)))]) sz)) 0 0 (va_A ([(h0, .inr (2, [.ref b0, .int 0, .int (-1), .int 0, .int 0, .int 0])), (b0, .inl (k 0, 250, .inl (fun _ => 0)))]) sz) := by
  refine gx_metE (Qc := fun A => gx_Qv D (fun (u : Unit) => True) (fun (u : Unit) => ([(h0, .inr (2, [.ref b0, .int 4, .int (-1), .int 0, .int 0, .int 0]))] : va_W)) A) (y := yX4_append) (cc := cX4_append) (n := 4) (ret := none) (av := [.ref h0, .int v, .int 4]) (by decide) (Nat.le_of_ble_eq_true rfl) ?_
  intro p e s m below meth c A ls C hA hP hD hK hS hl
  obtain ⟨hx, hb, hr, hml, hown, hT, hlk, hin⟩ := id C
  have hown : s.vm.findClass RX4 = some m.cls := hown
  have hl : lv_has ls 4 [(0, .ref h0), (1, .int v), (2, .int 4)] := hl
  refine lv_iload_n hx hb dX4_append_0 rfl (lv_at hl 2 rfl) ?_
  refine lv_iconst (v := 1) hx hb dX4_append_1 (by decide) ?_
  refine lv_isub hx hb dX4_append_2 ?_
  refine gx_cst (v := 3) (by decide) ?_
  refine lv_istore_n (lv' := [(3, .int 3), (0, .ref h0), (1, .int v), (2, .int 4)]) hx hb dX4_append_3 rfl hl (by decide) rfl (fun ls hl => ?_)
  refine lv_iload_n hx hb dX4_append_4 rfl (lv_at hl 0 rfl) ?_
  refine lv_if_lt (tgt := 53) hx hb dX4_append_5 (by decide) (fun c_1 => absurd c_1 (by decide)) (fun c_1 => ?_)
  refine lv_aload_n hx hb dX4_append_8 rfl (lv_at hl 1 rfl) ?_
  refine va_get (D := D) (ci := 2) (v := .int 0) (C := RX4) (T := TX4) (N := 6) hx hb hT iw_TX4 hown hK.1 hP 0 rfl rfl 1 (by decide) (hT _ wd_196) (fun _ h9 => h9) rfl dX4_append_9 ?_
  refine lv_sipush (v := 250) hx hb dX4_append_12 (by decide) ?_
  refine lv_icmp_ge (tgt := 53) hx hb dX4_append_15 (by decide) (fun c_2 => absurd c_2 (by decide)) (fun c_2 => ?_)
  refine lv_aload_n hx hb dX4_append_18 rfl (lv_at hl 1 rfl) ?_
  refine va_get (D := D) (ci := 2) (v := .ref b0) (C := RX4) (T := TX4) (N := 6) hx hb hT iw_TX4 hown hK.1 hP 0 rfl rfl 0 (by decide) (hT _ wd_195) (fun _ h9 => h9) rfl dX4_append_19 ?_
  refine lv_aload_n hx hb dX4_append_22 rfl (lv_at hl 1 rfl) ?_
  refine va_get (D := D) (ci := 2) (v := .int 0) (C := RX4) (T := TX4) (N := 6) hx hb hT iw_TX4 hown hK.1 hP 0 rfl rfl 1 (by decide) (hT _ wd_196) (fun _ h9 => h9) rfl dX4_append_23 ?_
  refine lv_iload_n hx hb dX4_append_26 rfl (lv_at hl 2 rfl) ?_
  refine lv_bipush (v := 8) hx hb dX4_append_27 (by decide) ?_
  refine lv_iload_n hx hb dX4_append_29 rfl (lv_at hl 0 rfl) ?_
  refine lv_imul hx hb dX4_append_30 ?_
  refine gx_cst (v := 24) (by decide) ?_
  refine lv_ishr hx hb dX4_append_31 ?_
  refine lv_sipush (v := 255) hx hb dX4_append_32 (by decide) ?_
  refine lv_iand hx hb dX4_append_35 ?_
  refine va_iast hx hb hK.1 hP hD hS 1 0 rfl rfl (gx_vin rfl) dX4_append_36 (fun H locs hP hD hS => ?_)
  obtain ⟨f_3, ef_3⟩ : ∃ f9, f9 = upd ((fun _ => 0) : Nat → Int32) (0 : Int32).toNatClampNeg (((v >>> ((24 : Int32) &&& 31)) &&& (255 : Int32)) : Int32) := ⟨_, rfl⟩
  have hP : va_P D gx_cl [(h0, .inr (2, [.ref b0, .int 0, .int (-1), .int 0, .int 0, .int 0])), (b0, .inl (k 0, 250, .inl f_3))] H := by subst ef_3; exact hP
  have hD : va_D A [(h0, .inr (2, [.ref b0, .int 0, .int (-1), .int 0, .int 0, .int 0])), (b0, .inl (k 0, 250, .inl f_3))] := by subst ef_3; exact hD
  refine lv_aload_n hx hb dX4_append_37 rfl (lv_at hl 1 rfl) ?_
  refine lv_dup hx hb dX4_append_38 rfl ?_
  refine va_get (D := D) (ci := 2) (v := .int 0) (C := RX4) (T := TX4) (N := 6) hx hb hT iw_TX4 hown hK.1 hP 0 rfl rfl 1 (by decide) (hT _ wd_196) (fun _ h9 => h9) rfl dX4_append_39 ?_
  refine lv_iconst (v := 1) hx hb dX4_append_42 (by decide) ?_
  refine lv_iadd hx hb dX4_append_43 ?_
  refine gx_cst (v := 1) (by decide) ?_
  refine va_put (D := D) (ci := 2) (v := .int 1) (ty := .int) (C := RX4) (T := TX4) (N := 6) hx hb hT iw_TX4 tyX4 tyX4_ok nmX4 hown hK.1 hP hD hS 0 rfl rfl 1 (by decide) (hT _ wd_196) (fun _ h9 => h9) rfl (by decide +kernel) rfl rfl (Nat.le_of_ble_eq_true rfl) dX4_append_44 (fun H locs hP hD hS => ?_)
  have hP : va_P D gx_cl [(h0, .inr (2, [.ref b0, .int 1, .int (-1), .int 0, .int 0, .int 0])), (b0, .inl (k 0, 250, .inl f_3))] H := hP
  have hD : va_D A [(h0, .inr (2, [.ref b0, .int 1, .int (-1), .int 0, .int 0, .int 0])), (b0, .inl (k 0, 250, .inl f_3))] := hD
  refine lv_iinc (v := 2) (lv' := [(3, .int 2), (0, .ref h0), (1, .int v), (2, .int 4)]) hx hb dX4_append_47 hl (k := 0) rfl (by decide) (by decide) rfl (fun ls hl => ?_)
  refine lv_goto (tgt := 4) hx hb dX4_append_50 (by decide) ?_
  refine lv_iload_n hx hb dX4_append_4 rfl (lv_at hl 0 rfl) ?_
  refine lv_if_lt (tgt := 53) hx hb dX4_append_5 (by decide) (fun c_4 => absurd c_4 (by decide)) (fun c_4 => ?_)
  refine lv_aload_n hx hb dX4_append_8 rfl (lv_at hl 1 rfl) ?_
  refine va_get (D := D) (ci := 2) (v := .int 1) (C := RX4) (T := TX4) (N := 6) hx hb hT iw_TX4 hown hK.1 hP 0 rfl rfl 1 (by decide) (hT _ wd_196) (fun _ h9 => h9) rfl dX4_append_9 ?_
  refine lv_sipush (v := 250) hx hb dX4_append_12 (by decide) ?_
  refine lv_icmp_ge (tgt := 53) hx hb dX4_append_15 (by decide) (fun c_5 => absurd c_5 (by decide)) (fun c_5 => ?_)
  refine lv_aload_n hx hb dX4_append_18 rfl (lv_at hl 1 rfl) ?_
  refine va_get (D := D) (ci := 2) (v := .ref b0) (C := RX4) (T := TX4) (N := 6) hx hb hT iw_TX4 hown hK.1 hP 0 rfl rfl 0 (by decide) (hT _ wd_195) (fun _ h9 => h9) rfl dX4_append_19 ?_
  refine lv_aload_n hx hb dX4_append_22 rfl (lv_at hl 1 rfl) ?_
  refine va_get (D := D) (ci := 2) (v := .int 1) (C := RX4) (T := TX4) (N := 6) hx hb hT iw_TX4 hown hK.1 hP 0 rfl rfl 1 (by decide) (hT _ wd_196) (fun _ h9 => h9) rfl dX4_append_23 ?_
  refine lv_iload_n hx hb dX4_append_26 rfl (lv_at hl 2 rfl) ?_
  refine lv_bipush (v := 8) hx hb dX4_append_27 (by decide) ?_
  refine lv_iload_n hx hb dX4_append_29 rfl (lv_at hl 0 rfl) ?_
  refine lv_imul hx hb dX4_append_30 ?_
  refine gx_cst (v := 16) (by decide) ?_
  refine lv_ishr hx hb dX4_append_31 ?_
  refine lv_sipush (v := 255) hx hb dX4_append_32 (by decide) ?_
  refine lv_iand hx hb dX4_append_35 ?_
  refine va_iast hx hb hK.1 hP hD hS 1 0 rfl rfl (gx_vin rfl) dX4_append_36 (fun H locs hP hD hS => ?_)
  obtain ⟨f_6, ef_6⟩ : ∃ f9, f9 = upd f_3 (1 : Int32).toNatClampNeg (((v >>> ((16 : Int32) &&& 31)) &&& (255 : Int32)) : Int32) := ⟨_, rfl⟩
  have hP : va_P D gx_cl [(h0, .inr (2, [.ref b0, .int 1, .int (-1), .int 0, .int 0, .int 0])), (b0, .inl (k 0, 250, .inl f_6))] H := by subst ef_6; exact hP
  have hD : va_D A [(h0, .inr (2, [.ref b0, .int 1, .int (-1), .int 0, .int 0, .int 0])), (b0, .inl (k 0, 250, .inl f_6))] := by subst ef_6; exact hD
  refine lv_aload_n hx hb dX4_append_37 rfl (lv_at hl 1 rfl) ?_
  refine lv_dup hx hb dX4_append_38 rfl ?_
  refine va_get (D := D) (ci := 2) (v := .int 1) (C := RX4) (T := TX4) (N := 6) hx hb hT iw_TX4 hown hK.1 hP 0 rfl rfl 1 (by decide) (hT _ wd_196) (fun _ h9 => h9) rfl dX4_append_39 ?_
  refine lv_iconst (v := 1) hx hb dX4_append_42 (by decide) ?_
  refine lv_iadd hx hb dX4_append_43 ?_
  refine gx_cst (v := 2) (by decide) ?_
  refine va_put (D := D) (ci := 2) (v := .int 2) (ty := .int) (C := RX4) (T := TX4) (N := 6) hx hb hT iw_TX4 tyX4 tyX4_ok nmX4 hown hK.1 hP hD hS 0 rfl rfl 1 (by decide) (hT _ wd_196) (fun _ h9 => h9) rfl (by decide +kernel) rfl rfl (Nat.le_of_ble_eq_true rfl) dX4_append_44 (fun H locs hP hD hS => ?_)
  have hP : va_P D gx_cl [(h0, .inr (2, [.ref b0, .int 2, .int (-1), .int 0, .int 0, .int 0])), (b0, .inl (k 0, 250, .inl f_6))] H := hP
  have hD : va_D A [(h0, .inr (2, [.ref b0, .int 2, .int (-1), .int 0, .int 0, .int 0])), (b0, .inl (k 0, 250, .inl f_6))] := hD
  refine lv_iinc (v := 1) (lv' := [(3, .int 1), (0, .ref h0), (1, .int v), (2, .int 4)]) hx hb dX4_append_47 hl (k := 0) rfl (by decide) (by decide) rfl (fun ls hl => ?_)
  refine lv_goto (tgt := 4) hx hb dX4_append_50 (by decide) ?_
  refine lv_iload_n hx hb dX4_append_4 rfl (lv_at hl 0 rfl) ?_
  refine lv_if_lt (tgt := 53) hx hb dX4_append_5 (by decide) (fun c_7 => absurd c_7 (by decide)) (fun c_7 => ?_)
  refine lv_aload_n hx hb dX4_append_8 rfl (lv_at hl 1 rfl) ?_
  refine va_get (D := D) (ci := 2) (v := .int 2) (C := RX4) (T := TX4) (N := 6) hx hb hT iw_TX4 hown hK.1 hP 0 rfl rfl 1 (by decide) (hT _ wd_196) (fun _ h9 => h9) rfl dX4_append_9 ?_
  refine lv_sipush (v := 250) hx hb dX4_append_12 (by decide) ?_
  refine lv_icmp_ge (tgt := 53) hx hb dX4_append_15 (by decide) (fun c_8 => absurd c_8 (by decide)) (fun c_8 => ?_)
  refine lv_aload_n hx hb dX4_append_18 rfl (lv_at hl 1 rfl) ?_
  refine va_get (D := D) (ci := 2) (v := .ref b0) (C := RX4) (T := TX4) (N := 6) hx hb hT iw_TX4 hown hK.1 hP 0 rfl rfl 0 (by decide) (hT _ wd_195) (fun _ h9 => h9) rfl dX4_append_19 ?_
  refine lv_aload_n hx hb dX4_append_22 rfl (lv_at hl 1 rfl) ?_
  refine va_get (D := D) (ci := 2) (v := .int 2) (C := RX4) (T := TX4) (N := 6) hx hb hT iw_TX4 hown hK.1 hP 0 rfl rfl 1 (by decide) (hT _ wd_196) (fun _ h9 => h9) rfl dX4_append_23 ?_
  refine lv_iload_n hx hb dX4_append_26 rfl (lv_at hl 2 rfl) ?_
  refine lv_bipush (v := 8) hx hb dX4_append_27 (by decide) ?_
  refine lv_iload_n hx hb dX4_append_29 rfl (lv_at hl 0 rfl) ?_
  refine lv_imul hx hb dX4_append_30 ?_
  refine gx_cst (v := 8) (by decide) ?_
  refine lv_ishr hx hb dX4_append_31 ?_
  refine lv_sipush (v := 255) hx hb dX4_append_32 (by decide) ?_
  refine lv_iand hx hb dX4_append_35 ?_
  refine va_iast hx hb hK.1 hP hD hS 1 0 rfl rfl (gx_vin rfl) dX4_append_36 (fun H locs hP hD hS => ?_)
  obtain ⟨f_9, ef_9⟩ : ∃ f9, f9 = upd f_6 (2 : Int32).toNatClampNeg (((v >>> ((8 : Int32) &&& 31)) &&& (255 : Int32)) : Int32) := ⟨_, rfl⟩
  have hP : va_P D gx_cl [(h0, .inr (2, [.ref b0, .int 2, .int (-1), .int 0, .int 0, .int 0])), (b0, .inl (k 0, 250, .inl f_9))] H := by subst ef_9; exact hP
  have hD : va_D A [(h0, .inr (2, [.ref b0, .int 2, .int (-1), .int 0, .int 0, .int 0])), (b0, .inl (k 0, 250, .inl f_9))] := by subst ef_9; exact hD
  refine lv_aload_n hx hb dX4_append_37 rfl (lv_at hl 1 rfl) ?_
  refine lv_dup hx hb dX4_append_38 rfl ?_
  refine va_get (D := D) (ci := 2) (v := .int 2) (C := RX4) (T := TX4) (N := 6) hx hb hT iw_TX4 hown hK.1 hP 0 rfl rfl 1 (by decide) (hT _ wd_196) (fun _ h9 => h9) rfl dX4_append_39 ?_
  refine lv_iconst (v := 1) hx hb dX4_append_42 (by decide) ?_
  refine lv_iadd hx hb dX4_append_43 ?_
  refine gx_cst (v := 3) (by decide) ?_
  refine va_put (D := D) (ci := 2) (v := .int 3) (ty := .int) (C := RX4) (T := TX4) (N := 6) hx hb hT iw_TX4 tyX4 tyX4_ok nmX4 hown hK.1 hP hD hS 0 rfl rfl 1 (by decide) (hT _ wd_196) (fun _ h9 => h9) rfl (by decide +kernel) rfl rfl (Nat.le_of_ble_eq_true rfl) dX4_append_44 (fun H locs hP hD hS => ?_)
  have hP : va_P D gx_cl [(h0, .inr (2, [.ref b0, .int 3, .int (-1), .int 0, .int 0, .int 0])), (b0, .inl (k 0, 250, .inl f_9))] H := hP
  have hD : va_D A [(h0, .inr (2, [.ref b0, .int 3, .int (-1), .int 0, .int 0, .int 0])), (b0, .inl (k 0, 250, .inl f_9))] := hD
  refine lv_iinc (v := 0) (lv' := [(3, .int 0), (0, .ref h0), (1, .int v), (2, .int 4)]) hx hb dX4_append_47 hl (k := 0) rfl (by decide) (by decide) rfl (fun ls hl => ?_)
  refine lv_goto (tgt := 4) hx hb dX4_append_50 (by decide) ?_
  refine lv_iload_n hx hb dX4_append_4 rfl (lv_at hl 0 rfl) ?_
  refine lv_if_lt (tgt := 53) hx hb dX4_append_5 (by decide) (fun c_10 => absurd c_10 (by decide)) (fun c_10 => ?_)
  refine lv_aload_n hx hb dX4_append_8 rfl (lv_at hl 1 rfl) ?_
  refine va_get (D := D) (ci := 2) (v := .int 3) (C := RX4) (T := TX4) (N := 6) hx hb hT iw_TX4 hown hK.1 hP 0 rfl rfl 1 (by decide) (hT _ wd_196) (fun _ h9 => h9) rfl dX4_append_9 ?_
  refine lv_sipush (v := 250) hx hb dX4_append_12 (by decide) ?_
  refine lv_icmp_ge (tgt := 53) hx hb dX4_append_15 (by decide) (fun c_11 => absurd c_11 (by decide)) (fun c_11 => ?_)
  refine lv_aload_n hx hb dX4_append_18 rfl (lv_at hl 1 rfl) ?_
  refine va_get (D := D) (ci := 2) (v := .ref b0) (C := RX4) (T := TX4) (N := 6) hx hb hT iw_TX4 hown hK.1 hP 0 rfl rfl 0 (by decide) (hT _ wd_195) (fun _ h9 => h9) rfl dX4_append_19 ?_
  refine lv_aload_n hx hb dX4_append_22 rfl (lv_at hl 1 rfl) ?_
  refine va_get (D := D) (ci := 2) (v := .int 3) (C := RX4) (T := TX4) (N := 6) hx hb hT iw_TX4 hown hK.1 hP 0 rfl rfl 1 (by decide) (hT _ wd_196) (fun _ h9 => h9) rfl dX4_append_23 ?_
  refine lv_iload_n hx hb dX4_append_26 rfl (lv_at hl 2 rfl) ?_
  refine lv_bipush (v := 8) hx hb dX4_append_27 (by decide) ?_
  refine lv_iload_n hx hb dX4_append_29 rfl (lv_at hl 0 rfl) ?_
  refine lv_imul hx hb dX4_append_30 ?_
  refine gx_cst (v := 0) (by decide) ?_
  refine lv_ishr hx hb dX4_append_31 ?_
  refine lv_sipush (v := 255) hx hb dX4_append_32 (by decide) ?_
  refine lv_iand hx hb dX4_append_35 ?_
  refine va_iast hx hb hK.1 hP hD hS 1 0 rfl rfl (gx_vin rfl) dX4_append_36 (fun H locs hP hD hS => ?_)
  obtain ⟨f_12, ef_12⟩ : ∃ f9, f9 = upd f_9 (3 : Int32).toNatClampNeg (((v >>> ((0 : Int32) &&& 31)) &&& (255 : Int32)) : Int32) := ⟨_, rfl⟩
  have hP : va_P D gx_cl [(h0, .inr (2, [.ref b0, .int 3, .int (-1), .int 0, .int 0, .int 0])), (b0, .inl (k 0, 250, .inl f_12))] H := by subst ef_12; exact hP
  have hD : va_D A [(h0, .inr (2, [.ref b0, .int 3, .int (-1), .int 0, .int 0, .int 0])), (b0, .inl (k 0, 250, .inl f_12))] := by subst ef_12; exact hD
  refine lv_aload_n hx hb dX4_append_37 rfl (lv_at hl 1 rfl) ?_
  refine lv_dup hx hb dX4_append_38 rfl ?_
  refine va_get (D := D) (ci := 2) (v := .int 3) (C := RX4) (T := TX4) (N := 6) hx hb hT iw_TX4 hown hK.1 hP 0 rfl rfl 1 (by decide) (hT _ wd_196) (fun _ h9 => h9) rfl dX4_append_39 ?_
  refine lv_iconst (v := 1) hx hb dX4_append_42 (by decide) ?_
  refine lv_iadd hx hb dX4_append_43 ?_
  refine gx_cst (v := 4) (by decide) ?_
  refine va_put (D := D) (ci := 2) (v := .int 4) (ty := .int) (C := RX4) (T := TX4) (N := 6) hx hb hT iw_TX4 tyX4 tyX4_ok nmX4 hown hK.1 hP hD hS 0 rfl rfl 1 (by decide) (hT _ wd_196) (fun _ h9 => h9) rfl (by decide +kernel) rfl rfl (Nat.le_of_ble_eq_true rfl) dX4_append_44 (fun H locs hP hD hS => ?_)
  have hP : va_P D gx_cl [(h0, .inr (2, [.ref b0, .int 4, .int (-1), .int 0, .int 0, .int 0])), (b0, .inl (k 0, 250, .inl f_12))] H := hP
  have hD : va_D A [(h0, .inr (2, [.ref b0, .int 4, .int (-1), .int 0, .int 0, .int 0])), (b0, .inl (k 0, 250, .inl f_12))] := hD
  refine lv_iinc (v := (-1)) (lv' := [(3, .int (-1)), (0, .ref h0), (1, .int v), (2, .int 4)]) hx hb dX4_append_47 hl (k := 0) rfl (by decide) (by decide) rfl (fun ls hl => ?_)
  refine lv_goto (tgt := 4) hx hb dX4_append_50 (by decide) ?_
  refine lv_iload_n hx hb dX4_append_4 rfl (lv_at hl 0 rfl) ?_
  refine lv_if_lt (tgt := 53) hx hb dX4_append_5 (by decide) (fun c_13 => ?_) (fun c_13 => absurd (by decide) c_13)
  have hP9 := gx_subP (wc := ([(h0, .inr (2, [.ref b0, .int 4, .int (-1), .int 0, .int 0, .int 0]))] : va_W)) hP [0] rfl
  have hD9 := hD.sub (ws' := ([(h0, .inr (2, [.ref b0, .int 4, .int (-1), .int 0, .int 0, .int 0]))] : va_W)) [0] (by decide) rfl
  exact gx_retV C (u := ()) hP9 hD9 hS (trivial) dX4_append_53
set_option maxHeartbeats 4000000 in
set_option maxRecDepth 100000 in
theorem k_sortAt (l : Launch) (D : va_G) (k : Nat → ClassId) (h0 : Nat) (b0 : Nat) (sz : Nat) : Met l yX4_sortAt (.code yX4_sortAt cX4_sortAt 3 (some .int) :: gx_T) ({ frames := 0, cells := 0, slots := 0, locals := 0 }) (gx_Pre D k [.ref h0, .int 0] ([(h0, .inr (2, [.ref b0, .int 0, .int (-1), .int 0, .int 0, .int 0]))]) sz) (gx_Pi (fun r => r = 0)) 0 0 gx_No := by
  refine gx_metP (y := yX4_sortAt) (cc := cX4_sortAt) (n := 3) (ret := (some .int)) (av := [.ref h0, .int 0]) (by decide) (Nat.le_of_ble_eq_true rfl) ?_
  intro p e s m below meth c ls C hP hD hK hS hl
  obtain ⟨hx, hb, hr, hml, hown, hT, hlk, hin⟩ := id C
  have hown : s.vm.findClass RX4 = some m.cls := hown
  have hl : lv_has ls 3 [(0, .ref h0), (1, .int 0)] := hl
  refine lv_iload_n hx hb dX4_sortAt_0 rfl (lv_at hl 1 rfl) ?_
  refine lv_if_lt (tgt := 12) hx hb dX4_sortAt_1 (by decide) (fun c_1 => absurd c_1 (by decide)) (fun c_1 => ?_)
  refine lv_iload_n hx hb dX4_sortAt_4 rfl (lv_at hl 1 rfl) ?_
  refine lv_aload_n hx hb dX4_sortAt_5 rfl (lv_at hl 0 rfl) ?_
  refine va_get (D := D) (ci := 2) (v := .int 0) (C := RX4) (T := TX4) (N := 6) hx hb hT iw_TX4 hown hK.1 hP 0 rfl rfl 1 (by decide) (hT _ wd_196) (fun _ h9 => h9) rfl dX4_sortAt_6 ?_
  refine lv_icmp_lt (tgt := 14) hx hb dX4_sortAt_9 (by decide) (fun c_2 => absurd c_2 (by decide)) (fun c_2 => ?_)
  refine lv_iconst (v := 0) hx hb dX4_sortAt_12 (by decide) ?_
  exact gx_retP C hS (rfl) dX4_sortAt_13
set_option maxHeartbeats 4000000 in
set_option maxRecDepth 100000 in
theorem k_advance (l : Launch) (D : va_G) (k : Nat → ClassId) (h0 : Nat) (b0 : Nat) (sz : Nat) : Met l yX4_advance (.code yX4_advance cX4_advance 1 none :: gx_T) ({ frames := 1, cells := 0, slots := 0, locals := 22 }) (gx_Pre D k [.ref h0] ([(h0, .inr (2, [.ref b0, .int 0, .int (-1), .int 0, .int 0, .int 0]))]) sz) (gx_Qv D (fun (u : Unit) => True) (fun (u : Unit) => ([(h0, .inr (2, [.ref b0, .int 0, .int (-1), .int 0, .int 0, .int 0]))] : va_W)) (va_A ([(h0, .inr (2, [.ref b0, .int 0, .int (-1), .int 0, .int 0, .int 0]))]) sz)) 0 0 (va_A ([(h0, .inr (2, [.ref b0, .int 0, .int (-1), .int 0, .int 0, .int 0]))]) sz) := by
  refine gx_metE (Qc := fun A => gx_Qv D (fun (u : Unit) => True) (fun (u : Unit) => ([(h0, .inr (2, [.ref b0, .int 0, .int (-1), .int 0, .int 0, .int 0]))] : va_W)) A) (y := yX4_advance) (cc := cX4_advance) (n := 1) (ret := none) (av := [.ref h0]) (by decide) (Nat.le_of_ble_eq_true rfl) ?_
  intro p e s m below meth c A ls C hA hP hD hK hS hl
  obtain ⟨hx, hb, hr, hml, hown, hT, hlk, hin⟩ := id C
  have hown : s.vm.findClass RX4 = some m.cls := hown
  have hl : lv_has ls 1 [(0, .ref h0)] := hl
  refine lv_aload_n hx hb dX4_advance_0 rfl (lv_at hl 0 rfl) ?_
  refine lv_aload_n hx hb dX4_advance_1 rfl (lv_at hl 0 rfl) ?_
  refine va_get (D := D) (ci := 2) (v := .int 0) (C := RX4) (T := TX4) (N := 6) hx hb hT iw_TX4 hown hK.1 hP 0 rfl rfl 5 (by decide) (hT _ wd_202) (fun _ h9 => h9) rfl dX4_advance_2 ?_
  refine va_put (D := D) (ci := 2) (v := .int 0) (ty := .int) (C := RX4) (T := TX4) (N := 6) hx hb hT iw_TX4 tyX4 tyX4_ok nmX4 hown hK.1 hP hD hS 0 rfl rfl 4 (by decide) (hT _ wd_201) (fun _ h9 => h9) rfl (by decide +kernel) rfl rfl (Nat.le_of_ble_eq_true rfl) dX4_advance_5 (fun H locs hP hD hS => ?_)
  have hP : va_P D gx_cl [(h0, .inr (2, [.ref b0, .int 0, .int (-1), .int 0, .int 0, .int 0]))] H := hP
  have hD : va_D A [(h0, .inr (2, [.ref b0, .int 0, .int (-1), .int 0, .int 0, .int 0]))] := hD
  refine lv_aload_n hx hb dX4_advance_8 rfl (lv_at hl 0 rfl) ?_
  refine va_get (D := D) (ci := 2) (v := .int 0) (C := RX4) (T := TX4) (N := 6) hx hb hT iw_TX4 hown hK.1 hP 0 rfl rfl 4 (by decide) (hT _ wd_201) (fun _ h9 => h9) rfl dX4_advance_9 ?_
  refine lv_aload_n hx hb dX4_advance_12 rfl (lv_at hl 0 rfl) ?_
  refine va_get (D := D) (ci := 2) (v := .int 0) (C := RX4) (T := TX4) (N := 6) hx hb hT iw_TX4 hown hK.1 hP 0 rfl rfl 1 (by decide) (hT _ wd_196) (fun _ h9 => h9) rfl dX4_advance_13 ?_
  refine lv_icmp_ge (tgt := 46) hx hb dX4_advance_16 (by decide) (fun c_1 => ?_) (fun c_1 => absurd (by decide) c_1)
  refine lv_aload_n hx hb dX4_advance_46 rfl (lv_at hl 0 rfl) ?_
  refine lv_aload_n hx hb dX4_advance_47 rfl (lv_at hl 0 rfl) ?_
  refine va_get (D := D) (ci := 2) (v := .int 0) (C := RX4) (T := TX4) (N := 6) hx hb hT iw_TX4 hown hK.1 hP 0 rfl rfl 4 (by decide) (hT _ wd_201) (fun _ h9 => h9) rfl dX4_advance_48 ?_
  refine va_put (D := D) (ci := 2) (v := .int 0) (ty := .int) (C := RX4) (T := TX4) (N := 6) hx hb hT iw_TX4 tyX4 tyX4_ok nmX4 hown hK.1 hP hD hS 0 rfl rfl 5 (by decide) (hT _ wd_202) (fun _ h9 => h9) rfl (by decide +kernel) rfl rfl (Nat.le_of_ble_eq_true rfl) dX4_advance_51 (fun H locs hP hD hS => ?_)
  have hP : va_P D gx_cl [(h0, .inr (2, [.ref b0, .int 0, .int (-1), .int 0, .int 0, .int 0]))] H := hP
  have hD : va_D A [(h0, .inr (2, [.ref b0, .int 0, .int (-1), .int 0, .int 0, .int 0]))] := hD
  refine lv_aload_n hx hb dX4_advance_54 rfl (lv_at hl 0 rfl) ?_
  refine lv_aload_n hx hb dX4_advance_55 rfl (lv_at hl 0 rfl) ?_
  refine lv_aload_n hx hb dX4_advance_56 rfl (lv_at hl 0 rfl) ?_
  refine va_get (D := D) (ci := 2) (v := .int 0) (C := RX4) (T := TX4) (N := 6) hx hb hT iw_TX4 hown hK.1 hP 0 rfl rfl 4 (by decide) (hT _ wd_201) (fun _ h9 => h9) rfl dX4_advance_57 ?_
  refine gx_pi hP hS (gx_runV (na := 1) (As := [.int 0]) (rest := [.ref h0]) (ci := 2) C hl.1 hK (gx_subP (wc := ([(h0, .inr (2, [.ref b0, .int 0, .int (-1), .int 0, .int 0, .int 0]))] : va_W)) hP [0] rfl) ((hD.sub (ws' := ([(h0, .inr (2, [.ref b0, .int 0, .int (-1), .int 0, .int 0, .int 0]))] : va_W)) [0] (by decide) rfl).weaken (fun _ _ _ _ => trivial)) (k_sortAt l D k h0 b0 _) gV_RX4_124 (by decide +kernel) rfl rfl ⟨Nat.le_of_ble_eq_true rfl, Nat.le_of_ble_eq_true rfl⟩ rfl rfl rfl rfl (Nat.le_of_ble_eq_true rfl) dX4_advance_60 ⟨Nat.le_of_ble_eq_true rfl, Nat.le_of_ble_eq_true rfl⟩) (fun r_3 H locs c_2 hP hS => ?_)
  have c_2 : r_3 = 0 := c_2
  subst c_2
  refine va_put (D := D) (ci := 2) (v := .int 0) (ty := .int) (C := RX4) (T := TX4) (N := 6) hx hb hT iw_TX4 tyX4 tyX4_ok nmX4 hown hK.1 hP hD hS 0 rfl rfl 3 (by decide) (hT _ wd_200) (fun _ h9 => h9) rfl (by decide +kernel) rfl rfl (Nat.le_of_ble_eq_true rfl) dX4_advance_63 (fun H locs hP hD hS => ?_)
  have hP : va_P D gx_cl [(h0, .inr (2, [.ref b0, .int 0, .int (-1), .int 0, .int 0, .int 0]))] H := hP
  have hD : va_D A [(h0, .inr (2, [.ref b0, .int 0, .int (-1), .int 0, .int 0, .int 0]))] := hD
  refine lv_aload_n hx hb dX4_advance_66 rfl (lv_at hl 0 rfl) ?_
  refine va_get (D := D) (ci := 2) (v := .int 0) (C := RX4) (T := TX4) (N := 6) hx hb hT iw_TX4 hown hK.1 hP 0 rfl rfl 3 (by decide) (hT _ wd_200) (fun _ h9 => h9) rfl dX4_advance_67 ?_
  refine lv_iconst (v := 3) hx hb dX4_advance_70 (by decide) ?_
  refine lv_icmp_eq (tgt := 82) hx hb dX4_advance_71 (by decide) (fun c_4 => absurd c_4 (by decide)) (fun c_4 => ?_)
  refine lv_aload_n hx hb dX4_advance_74 rfl (lv_at hl 0 rfl) ?_
  refine va_get (D := D) (ci := 2) (v := .int 0) (C := RX4) (T := TX4) (N := 6) hx hb hT iw_TX4 hown hK.1 hP 0 rfl rfl 3 (by decide) (hT _ wd_200) (fun _ h9 => h9) rfl dX4_advance_75 ?_
  refine lv_iconst (v := 4) hx hb dX4_advance_78 (by decide) ?_
  refine lv_icmp_ne (tgt := 92) hx hb dX4_advance_79 (by decide) (fun c_5 => ?_) (fun c_5 => absurd c_5 (by decide))
  refine lv_aload_n hx hb dX4_advance_92 rfl (lv_at hl 0 rfl) ?_
  refine va_get (D := D) (ci := 2) (v := .int 0) (C := RX4) (T := TX4) (N := 6) hx hb hT iw_TX4 hown hK.1 hP 0 rfl rfl 3 (by decide) (hT _ wd_200) (fun _ h9 => h9) rfl dX4_advance_93 ?_
  refine lv_iconst (v := 1) hx hb dX4_advance_96 (by decide) ?_
  refine lv_icmp_eq (tgt := 108) hx hb dX4_advance_97 (by decide) (fun c_6 => absurd c_6 (by decide)) (fun c_6 => ?_)
  refine lv_aload_n hx hb dX4_advance_100 rfl (lv_at hl 0 rfl) ?_
  refine va_get (D := D) (ci := 2) (v := .int 0) (C := RX4) (T := TX4) (N := 6) hx hb hT iw_TX4 hown hK.1 hP 0 rfl rfl 3 (by decide) (hT _ wd_200) (fun _ h9 => h9) rfl dX4_advance_101 ?_
  refine lv_iconst (v := 2) hx hb dX4_advance_104 (by decide) ?_
  refine lv_icmp_ne (tgt := 147) hx hb dX4_advance_105 (by decide) (fun c_7 => ?_) (fun c_7 => absurd c_7 (by decide))
  have hP9 := gx_subP (wc := ([(h0, .inr (2, [.ref b0, .int 0, .int (-1), .int 0, .int 0, .int 0]))] : va_W)) hP [0] rfl
  have hD9 := hD.sub (ws' := ([(h0, .inr (2, [.ref b0, .int 0, .int (-1), .int 0, .int 0, .int 0]))] : va_W)) [0] (by decide) rfl
  exact gx_retV C (u := ()) hP9 hD9 hS (trivial) dX4_advance_147
set_option maxHeartbeats 4000000 in
set_option maxRecDepth 100000 in
theorem k_takes (l : Launch) (D : va_G) (k : Nat → ClassId) (h0 : Nat) (b0 : Nat) (w : Nat) (sz : Nat) : Met l yX4_takes (.code yX4_takes cX4_takes 4 (some .boolean) :: gx_T) ({ frames := 0, cells := 0, slots := 0, locals := 0 }) (gx_Pre D k [.ref h0, .ref w, .int 1] ([(h0, .inr (2, [.ref b0, .int 0, .int (-1), .int 0, .int 0, .int 0]))]) sz) (gx_Pi (fun r => r = 0)) 0 0 gx_No := by
  refine gx_metP (y := yX4_takes) (cc := cX4_takes) (n := 4) (ret := (some .boolean)) (av := [.ref h0, .ref w, .int 1]) (by decide) (Nat.le_of_ble_eq_true rfl) ?_
  intro p e s m below meth c ls C hP hD hK hS hl
  obtain ⟨hx, hb, hr, hml, hown, hT, hlk, hin⟩ := id C
  have hown : s.vm.findClass RX4 = some m.cls := hown
  have hl : lv_has ls 4 [(0, .ref h0), (1, .ref w), (2, .int 1)] := hl
  refine lv_aload_n hx hb dX4_takes_0 rfl (lv_at hl 0 rfl) ?_
  refine va_get (D := D) (ci := 2) (v := .int (-1)) (C := RX4) (T := TX4) (N := 6) hx hb hT iw_TX4 hown hK.1 hP 0 rfl rfl 2 (by decide) (hT _ wd_198) (fun _ h9 => h9) rfl dX4_takes_1 ?_
  refine lv_iconst (v := (-1)) hx hb dX4_takes_4 (by decide) ?_
  refine lv_icmp_ne (tgt := 36) hx hb dX4_takes_5 (by decide) (fun c_1 => absurd (by decide) c_1) (fun c_1 => ?_)
  refine lv_iload_n hx hb dX4_takes_8 rfl (lv_at hl 2 rfl) ?_
  refine lv_if_eq (tgt := 36) hx hb dX4_takes_9 (by decide) (fun c_2 => absurd c_2 (by decide)) (fun c_2 => ?_)
  refine lv_aload_n hx hb dX4_takes_12 rfl (lv_at hl 0 rfl) ?_
  refine va_get (D := D) (ci := 2) (v := .int 0) (C := RX4) (T := TX4) (N := 6) hx hb hT iw_TX4 hown hK.1 hP 0 rfl rfl 3 (by decide) (hT _ wd_200) (fun _ h9 => h9) rfl dX4_takes_13 ?_
  refine lv_iconst (v := 1) hx hb dX4_takes_16 (by decide) ?_
  refine lv_icmp_ne (tgt := 36) hx hb dX4_takes_17 (by decide) (fun c_3 => ?_) (fun c_3 => absurd c_3 (by decide))
  refine lv_iconst (v := 0) hx hb dX4_takes_36 (by decide) ?_
  exact gx_retPZ C hS rfl (rfl) dX4_takes_37
set_option maxHeartbeats 4000000 in
set_option maxRecDepth 100000 in
theorem k_stopHere (l : Launch) (D : va_G) (k : Nat → ClassId) (h0 : Nat) (b0 : Nat) (sz : Nat) : Met l yX4_stopHere (.code yX4_stopHere cX4_stopHere 1 none :: gx_T) ({ frames := 0, cells := 0, slots := 0, locals := 0 }) (gx_Pre D k [.ref h0] ([(h0, .inr (2, [.ref b0, .int 0, .int (-1), .int 0, .int 0, .int 0]))]) sz) (gx_Qv D (fun (u : Unit) => True) (fun (u : Unit) => ([(h0, .inr (2, [.ref b0, .int 0, .int 0, .int 0, .int 0, .int 0]))] : va_W)) (va_A ([(h0, .inr (2, [.ref b0, .int 0, .int (-1), .int 0, .int 0, .int 0]))]) sz)) 0 0 (va_A ([(h0, .inr (2, [.ref b0, .int 0, .int (-1), .int 0, .int 0, .int 0]))]) sz) := by
  refine gx_metE (Qc := fun A => gx_Qv D (fun (u : Unit) => True) (fun (u : Unit) => ([(h0, .inr (2, [.ref b0, .int 0, .int 0, .int 0, .int 0, .int 0]))] : va_W)) A) (y := yX4_stopHere) (cc := cX4_stopHere) (n := 1) (ret := none) (av := [.ref h0]) (by decide) (Nat.le_of_ble_eq_true rfl) ?_
  intro p e s m below meth c A ls C hA hP hD hK hS hl
  obtain ⟨hx, hb, hr, hml, hown, hT, hlk, hin⟩ := id C
  have hown : s.vm.findClass RX4 = some m.cls := hown
  have hl : lv_has ls 1 [(0, .ref h0)] := hl
  refine lv_aload_n hx hb dX4_stopHere_0 rfl (lv_at hl 0 rfl) ?_
  refine va_get (D := D) (ci := 2) (v := .int (-1)) (C := RX4) (T := TX4) (N := 6) hx hb hT iw_TX4 hown hK.1 hP 0 rfl rfl 2 (by decide) (hT _ wd_198) (fun _ h9 => h9) rfl dX4_stopHere_1 ?_
  refine lv_iconst (v := (-1)) hx hb dX4_stopHere_4 (by decide) ?_
  refine lv_icmp_ne (tgt := 16) hx hb dX4_stopHere_5 (by decide) (fun c_1 => absurd (by decide) c_1) (fun c_1 => ?_)
  refine lv_aload_n hx hb dX4_stopHere_8 rfl (lv_at hl 0 rfl) ?_
  refine lv_aload_n hx hb dX4_stopHere_9 rfl (lv_at hl 0 rfl) ?_
  refine va_get (D := D) (ci := 2) (v := .int 0) (C := RX4) (T := TX4) (N := 6) hx hb hT iw_TX4 hown hK.1 hP 0 rfl rfl 4 (by decide) (hT _ wd_201) (fun _ h9 => h9) rfl dX4_stopHere_10 ?_
  refine va_put (D := D) (ci := 2) (v := .int 0) (ty := .int) (C := RX4) (T := TX4) (N := 6) hx hb hT iw_TX4 tyX4 tyX4_ok nmX4 hown hK.1 hP hD hS 0 rfl rfl 2 (by decide) (hT _ wd_198) (fun _ h9 => h9) rfl (by decide +kernel) rfl rfl (Nat.le_of_ble_eq_true rfl) dX4_stopHere_13 (fun H locs hP hD hS => ?_)
  have hP : va_P D gx_cl [(h0, .inr (2, [.ref b0, .int 0, .int 0, .int 0, .int 0, .int 0]))] H := hP
  have hD : va_D A [(h0, .inr (2, [.ref b0, .int 0, .int 0, .int 0, .int 0, .int 0]))] := hD
  have hP9 := gx_subP (wc := ([(h0, .inr (2, [.ref b0, .int 0, .int 0, .int 0, .int 0, .int 0]))] : va_W)) hP [0] rfl
  have hD9 := hD.sub (ws' := ([(h0, .inr (2, [.ref b0, .int 0, .int 0, .int 0, .int 0, .int 0]))] : va_W)) [0] (by decide) rfl
  exact gx_retV C (u := ()) hP9 hD9 hS (trivial) dX4_stopHere_16
set_option maxHeartbeats 4000000 in
set_option maxRecDepth 100000 in
theorem k_readStatement (l : Launch) (D : va_G) (k : Nat → ClassId) (h0 : Nat) (b0 : Nat) (h1 : Nat) (a0 : Nat) (a1 : Nat) (a2 : Nat) (a3 : Nat) (a4 : Nat) (a5 : Nat) (a6 : Nat) (a7 : Nat) (a8 : Nat) (sz : Nat) : Met l yX4_readStatement (.code yX4_readStatement cX4_readStatement 2 none :: gx_T) ({ frames := 1, cells := 0, slots := 0, locals := 23 }) (gx_Pre D k [.ref h0, .ref h1] ([(h0, .inr (2, [.ref b0, .int 0, .int (-1), .int 0, .int 0, .int 0])), (h1, .inr (0, [.ref a0, .ref a1, .ref a2, .ref a3, .ref a4, .ref a5, .ref a6, .ref a7, .ref a8, .int 0, .int 0, .int 0, .int 0, .int 1, .int 0, .int 0, .int 0]))]) sz) (gx_Qv D (fun (u : Unit) => True) (fun (u : Unit) => ([(h0, .inr (2, [.ref b0, .int 0, .int 0, .int 0, .int 0, .int 0]))] : va_W)) (va_A ([(h0, .inr (2, [.ref b0, .int 0, .int (-1), .int 0, .int 0, .int 0])), (h1, .inr (0, [.ref a0, .ref a1, .ref a2, .ref a3, .ref a4, .ref a5, .ref a6, .ref a7, .ref a8, .int 0, .int 0, .int 0, .int 0, .int 1, .int 0, .int 0, .int 0]))]) sz)) 0 0 (va_A ([(h0, .inr (2, [.ref b0, .int 0, .int (-1), .int 0, .int 0, .int 0])), (h1, .inr (0, [.ref a0, .ref a1, .ref a2, .ref a3, .ref a4, .ref a5, .ref a6, .ref a7, .ref a8, .int 0, .int 0, .int 0, .int 0, .int 1, .int 0, .int 0, .int 0]))]) sz) := by
  refine gx_metE (Qc := fun A => gx_Qv D (fun (u : Unit) => True) (fun (u : Unit) => ([(h0, .inr (2, [.ref b0, .int 0, .int 0, .int 0, .int 0, .int 0]))] : va_W)) A) (y := yX4_readStatement) (cc := cX4_readStatement) (n := 2) (ret := none) (av := [.ref h0, .ref h1]) (by decide) (Nat.le_of_ble_eq_true rfl) ?_
  intro p e s m below meth c A ls C hA hP hD hK hS hl
  obtain ⟨hx, hb, hr, hml, hown, hT, hlk, hin⟩ := id C
  have hown : s.vm.findClass RX4 = some m.cls := hown
  have hl : lv_has ls 2 [(0, .ref h0), (1, .ref h1)] := hl
  refine lv_aload_n hx hb dX4_readStatement_0 rfl (lv_at hl 0 rfl) ?_
  obtain ⟨str_1, hstr_1⟩ := hK.2.2.2.2.2.2.2 (RX4, 38, "road") (List.mem_of_getElem? (i := 0) rfl)
  refine va_ldcS hx hb hown hstr_1 dX4_readStatement_1 ?_
  refine lv_aload_n hx hb dX4_readStatement_3 rfl (lv_at hl 1 rfl) ?_
  refine va_get (D := D) (ci := 0) (v := .int 0) (C := RX1) (T := TX1) (N := 17) hx hb hT iw_TX1 hown hK.1 hP 1 rfl rfl 9 (by decide) (hT _ wd_133) (fun _ h9 => h9) rfl dX4_readStatement_4 ?_
  refine lv_bipush (v := 16) hx hb dX4_readStatement_7 (by decide) ?_
  refine lv_icmp_ge (tgt := 16) hx hb dX4_readStatement_9 (by decide) (fun c_2 => absurd c_2 (by decide)) (fun c_2 => ?_)
  refine lv_iconst (v := 1) hx hb dX4_readStatement_12 (by decide) ?_
  refine lv_goto (tgt := 17) hx hb dX4_readStatement_13 (by decide) ?_
  refine gx_pi hP hS (gx_runV (na := 2) (As := [.ref str_1, .int 1]) (rest := []) (ci := 2) C hl.1 hK (gx_subP (wc := ([(h0, .inr (2, [.ref b0, .int 0, .int (-1), .int 0, .int 0, .int 0]))] : va_W)) hP [0] rfl) ((hD.sub (ws' := ([(h0, .inr (2, [.ref b0, .int 0, .int (-1), .int 0, .int 0, .int 0]))] : va_W)) [0] (by decide) rfl).weaken (fun _ _ _ _ => trivial)) (k_takes l D k h0 b0 str_1 _) gV_RX4_45 (by decide +kernel) rfl rfl ⟨Nat.le_of_ble_eq_true rfl, Nat.le_of_ble_eq_true rfl⟩ rfl rfl rfl rfl (Nat.le_of_ble_eq_true rfl) dX4_readStatement_17 ⟨Nat.le_of_ble_eq_true rfl, Nat.le_of_ble_eq_true rfl⟩) (fun r_4 H locs c_3 hP hS => ?_)
  have c_3 : r_4 = 0 := c_3
  subst c_3
  refine lv_if_eq (tgt := 31) hx hb dX4_readStatement_20 (by decide) (fun c_5 => ?_) (fun c_5 => absurd (by decide) c_5)
  refine lv_aload_n hx hb dX4_readStatement_31 rfl (lv_at hl 0 rfl) ?_
  obtain ⟨str_6, hstr_6⟩ := hK.2.2.2.2.2.2.2 (RX4, 52, "one") (List.mem_of_getElem? (i := 1) rfl)
  refine va_ldcS hx hb hown hstr_6 dX4_readStatement_32 ?_
  refine lv_aload_n hx hb dX4_readStatement_34 rfl (lv_at hl 1 rfl) ?_
  refine va_get (D := D) (ci := 0) (v := .int 0) (C := RX1) (T := TX1) (N := 17) hx hb hT iw_TX1 hown hK.1 hP 1 rfl rfl 10 (by decide) (hT _ wd_137) (fun _ h9 => h9) rfl dX4_readStatement_35 ?_
  refine lv_bipush (v := 6) hx hb dX4_readStatement_38 (by decide) ?_
  refine lv_icmp_ge (tgt := 47) hx hb dX4_readStatement_40 (by decide) (fun c_7 => absurd c_7 (by decide)) (fun c_7 => ?_)
  refine lv_iconst (v := 1) hx hb dX4_readStatement_43 (by decide) ?_
  refine lv_goto (tgt := 48) hx hb dX4_readStatement_44 (by decide) ?_
  refine gx_pi hP hS (gx_runV (na := 2) (As := [.ref str_6, .int 1]) (rest := []) (ci := 2) C hl.1 hK (gx_subP (wc := ([(h0, .inr (2, [.ref b0, .int 0, .int (-1), .int 0, .int 0, .int 0]))] : va_W)) hP [0] rfl) ((hD.sub (ws' := ([(h0, .inr (2, [.ref b0, .int 0, .int (-1), .int 0, .int 0, .int 0]))] : va_W)) [0] (by decide) rfl).weaken (fun _ _ _ _ => trivial)) (k_takes l D k h0 b0 str_6 _) gV_RX4_45 (by decide +kernel) rfl rfl ⟨Nat.le_of_ble_eq_true rfl, Nat.le_of_ble_eq_true rfl⟩ rfl rfl rfl rfl (Nat.le_of_ble_eq_true rfl) dX4_readStatement_48 ⟨Nat.le_of_ble_eq_true rfl, Nat.le_of_ble_eq_true rfl⟩) (fun r_9 H locs c_8 hP hS => ?_)
  have c_8 : r_9 = 0 := c_8
  subst c_8
  refine lv_if_eq (tgt := 62) hx hb dX4_readStatement_51 (by decide) (fun c_10 => ?_) (fun c_10 => absurd (by decide) c_10)
  refine lv_aload_n hx hb dX4_readStatement_62 rfl (lv_at hl 0 rfl) ?_
  obtain ⟨str_11, hstr_11⟩ := hK.2.2.2.2.2.2.2 (RX4, 60, "gone") (List.mem_of_getElem? (i := 2) rfl)
  refine va_ldcS hx hb hown hstr_11 dX4_readStatement_63 ?_
  refine lv_iconst (v := 1) hx hb dX4_readStatement_65 (by decide) ?_
  refine gx_pi hP hS (gx_runV (na := 2) (As := [.ref str_11, .int 1]) (rest := []) (ci := 2) C hl.1 hK (gx_subP (wc := ([(h0, .inr (2, [.ref b0, .int 0, .int (-1), .int 0, .int 0, .int 0]))] : va_W)) hP [0] rfl) ((hD.sub (ws' := ([(h0, .inr (2, [.ref b0, .int 0, .int (-1), .int 0, .int 0, .int 0]))] : va_W)) [0] (by decide) rfl).weaken (fun _ _ _ _ => trivial)) (k_takes l D k h0 b0 str_11 _) gV_RX4_45 (by decide +kernel) rfl rfl ⟨Nat.le_of_ble_eq_true rfl, Nat.le_of_ble_eq_true rfl⟩ rfl rfl rfl rfl (Nat.le_of_ble_eq_true rfl) dX4_readStatement_66 ⟨Nat.le_of_ble_eq_true rfl, Nat.le_of_ble_eq_true rfl⟩) (fun r_13 H locs c_12 hP hS => ?_)
  have c_12 : r_13 = 0 := c_12
  subst c_12
  refine lv_if_eq (tgt := 80) hx hb dX4_readStatement_69 (by decide) (fun c_14 => ?_) (fun c_14 => absurd (by decide) c_14)
  refine lv_aload_n hx hb dX4_readStatement_80 rfl (lv_at hl 0 rfl) ?_
  obtain ⟨str_15, hstr_15⟩ := hK.2.2.2.2.2.2.2 (RX4, 65, "at") (List.mem_of_getElem? (i := 3) rfl)
  refine va_ldcS hx hb hown hstr_15 dX4_readStatement_81 ?_
  refine lv_iconst (v := 1) hx hb dX4_readStatement_83 (by decide) ?_
  refine gx_pi hP hS (gx_runV (na := 2) (As := [.ref str_15, .int 1]) (rest := []) (ci := 2) C hl.1 hK (gx_subP (wc := ([(h0, .inr (2, [.ref b0, .int 0, .int (-1), .int 0, .int 0, .int 0]))] : va_W)) hP [0] rfl) ((hD.sub (ws' := ([(h0, .inr (2, [.ref b0, .int 0, .int (-1), .int 0, .int 0, .int 0]))] : va_W)) [0] (by decide) rfl).weaken (fun _ _ _ _ => trivial)) (k_takes l D k h0 b0 str_15 _) gV_RX4_45 (by decide +kernel) rfl rfl ⟨Nat.le_of_ble_eq_true rfl, Nat.le_of_ble_eq_true rfl⟩ rfl rfl rfl rfl (Nat.le_of_ble_eq_true rfl) dX4_readStatement_84 ⟨Nat.le_of_ble_eq_true rfl, Nat.le_of_ble_eq_true rfl⟩) (fun r_17 H locs c_16 hP hS => ?_)
  have c_16 : r_17 = 0 := c_16
  subst c_16
  refine lv_if_eq (tgt := 98) hx hb dX4_readStatement_87 (by decide) (fun c_18 => ?_) (fun c_18 => absurd (by decide) c_18)
  refine lv_aload_n hx hb dX4_readStatement_98 rfl (lv_at hl 0 rfl) ?_
  obtain ⟨str_19, hstr_19⟩ := hK.2.2.2.2.2.2.2 (RX4, 70, "anew") (List.mem_of_getElem? (i := 4) rfl)
  refine va_ldcS hx hb hown hstr_19 dX4_readStatement_99 ?_
  refine lv_iconst (v := 1) hx hb dX4_readStatement_101 (by decide) ?_
  refine gx_pi hP hS (gx_runV (na := 2) (As := [.ref str_19, .int 1]) (rest := []) (ci := 2) C hl.1 hK (gx_subP (wc := ([(h0, .inr (2, [.ref b0, .int 0, .int (-1), .int 0, .int 0, .int 0]))] : va_W)) hP [0] rfl) ((hD.sub (ws' := ([(h0, .inr (2, [.ref b0, .int 0, .int (-1), .int 0, .int 0, .int 0]))] : va_W)) [0] (by decide) rfl).weaken (fun _ _ _ _ => trivial)) (k_takes l D k h0 b0 str_19 _) gV_RX4_45 (by decide +kernel) rfl rfl ⟨Nat.le_of_ble_eq_true rfl, Nat.le_of_ble_eq_true rfl⟩ rfl rfl rfl rfl (Nat.le_of_ble_eq_true rfl) dX4_readStatement_102 ⟨Nat.le_of_ble_eq_true rfl, Nat.le_of_ble_eq_true rfl⟩) (fun r_21 H locs c_20 hP hS => ?_)
  have c_20 : r_21 = 0 := c_20
  subst c_20
  refine lv_if_eq (tgt := 116) hx hb dX4_readStatement_105 (by decide) (fun c_22 => ?_) (fun c_22 => absurd (by decide) c_22)
  refine lv_aload_n hx hb dX4_readStatement_116 rfl (lv_at hl 0 rfl) ?_
  obtain ⟨str_23, hstr_23⟩ := hK.2.2.2.2.2.2.2 (RX4, 75, "shut") (List.mem_of_getElem? (i := 5) rfl)
  refine va_ldcS hx hb hown hstr_23 dX4_readStatement_117 ?_
  refine lv_iconst (v := 1) hx hb dX4_readStatement_119 (by decide) ?_
  refine gx_pi hP hS (gx_runV (na := 2) (As := [.ref str_23, .int 1]) (rest := []) (ci := 2) C hl.1 hK (gx_subP (wc := ([(h0, .inr (2, [.ref b0, .int 0, .int (-1), .int 0, .int 0, .int 0]))] : va_W)) hP [0] rfl) ((hD.sub (ws' := ([(h0, .inr (2, [.ref b0, .int 0, .int (-1), .int 0, .int 0, .int 0]))] : va_W)) [0] (by decide) rfl).weaken (fun _ _ _ _ => trivial)) (k_takes l D k h0 b0 str_23 _) gV_RX4_45 (by decide +kernel) rfl rfl ⟨Nat.le_of_ble_eq_true rfl, Nat.le_of_ble_eq_true rfl⟩ rfl rfl rfl rfl (Nat.le_of_ble_eq_true rfl) dX4_readStatement_120 ⟨Nat.le_of_ble_eq_true rfl, Nat.le_of_ble_eq_true rfl⟩) (fun r_25 H locs c_24 hP hS => ?_)
  have c_24 : r_25 = 0 := c_24
  subst c_24
  refine lv_if_eq (tgt := 134) hx hb dX4_readStatement_123 (by decide) (fun c_26 => ?_) (fun c_26 => absurd (by decide) c_26)
  refine lv_aload_n hx hb dX4_readStatement_134 rfl (lv_at hl 0 rfl) ?_
  refine gx_ev (wc := ([(h0, .inr (2, [.ref b0, .int 0, .int (-1), .int 0, .int 0, .int 0]))] : va_W)) (wr := [(h1, .inr (0, [.ref a0, .ref a1, .ref a2, .ref a3, .ref a4, .ref a5, .ref a6, .ref a7, .ref a8, .int 0, .int 0, .int 0, .int 0, .int 1, .int 0, .int 0, .int 0]))]) (isC := [0]) (isR := [1]) hP hD hS hA rfl rfl (by decide) (by decide) (gx_runV (na := 0) (As := []) (rest := []) (ci := 2) C hl.1 hK (gx_subP (wc := ([(h0, .inr (2, [.ref b0, .int 0, .int (-1), .int 0, .int 0, .int 0]))] : va_W)) hP [0] rfl) ((hD.sub (ws' := ([(h0, .inr (2, [.ref b0, .int 0, .int (-1), .int 0, .int 0, .int 0]))] : va_W)) [0] (by decide) rfl).weaken (fun _ _ _ _ => trivial)) (k_stopHere l D k h0 b0 _) gV_RX4_35 (by decide +kernel) rfl rfl ⟨Nat.le_of_ble_eq_true rfl, Nat.le_of_ble_eq_true rfl⟩ rfl rfl rfl rfl (Nat.le_of_ble_eq_true rfl) dX4_readStatement_135 ⟨Nat.le_of_ble_eq_true rfl, Nat.le_of_ble_eq_true rfl⟩) (fun u_27 H locs h_28 hP hD hS => ?_)
  have hP : va_P D gx_cl [(h1, .inr (0, [.ref a0, .ref a1, .ref a2, .ref a3, .ref a4, .ref a5, .ref a6, .ref a7, .ref a8, .int 0, .int 0, .int 0, .int 0, .int 1, .int 0, .int 0, .int 0])), (h0, .inr (2, [.ref b0, .int 0, .int 0, .int 0, .int 0, .int 0]))] H := hP
  have hD : va_D A [(h1, .inr (0, [.ref a0, .ref a1, .ref a2, .ref a3, .ref a4, .ref a5, .ref a6, .ref a7, .ref a8, .int 0, .int 0, .int 0, .int 0, .int 1, .int 0, .int 0, .int 0])), (h0, .inr (2, [.ref b0, .int 0, .int 0, .int 0, .int 0, .int 0]))] := hD
  have hP9 := gx_subP (wc := ([(h0, .inr (2, [.ref b0, .int 0, .int 0, .int 0, .int 0, .int 0]))] : va_W)) hP [1] rfl
  have hD9 := hD.sub (ws' := ([(h0, .inr (2, [.ref b0, .int 0, .int 0, .int 0, .int 0, .int 0]))] : va_W)) [1] (by decide) rfl
  exact gx_retV C (u := ()) hP9 hD9 hS (trivial) dX4_readStatement_138
set_option maxHeartbeats 4000000 in
set_option maxRecDepth 100000 in
theorem k_readOnto (l : Launch) (D : va_G) (k : Nat → ClassId) (h0 : Nat) (b0 : Nat) (h1 : Nat) (a0 : Nat) (a1 : Nat) (a2 : Nat) (a3 : Nat) (a4 : Nat) (a5 : Nat) (a6 : Nat) (a7 : Nat) (a8 : Nat) (sz : Nat) : Met l yX4_readOnto (.code yX4_readOnto cX4_readOnto 5 (some .int) :: gx_T) ({ frames := 2, cells := 0, slots := 0, locals := 44 }) (gx_Pre D k [.ref h0, .ref h1] ([(h0, .inr (2, [.ref b0, .int 0, .int (-1), .int 0, .int 0, .int 0])), (h1, .inr (0, [.ref a0, .ref a1, .ref a2, .ref a3, .ref a4, .ref a5, .ref a6, .ref a7, .ref a8, .int 0, .int 0, .int 0, .int 0, .int 1, .int 0, .int 0, .int 0]))]) sz) (gx_Qi D (fun (r : Int32) (u : Unit) => r = 1) (fun (u : Unit) => ([(h0, .inr (2, [.ref b0, .int 0, .int 0, .int 0, .int 0, .int 0]))] : va_W)) (va_A ([(h0, .inr (2, [.ref b0, .int 0, .int (-1), .int 0, .int 0, .int 0])), (h1, .inr (0, [.ref a0, .ref a1, .ref a2, .ref a3, .ref a4, .ref a5, .ref a6, .ref a7, .ref a8, .int 0, .int 0, .int 0, .int 0, .int 1, .int 0, .int 0, .int 0]))]) sz)) 0 0 (va_A ([(h0, .inr (2, [.ref b0, .int 0, .int (-1), .int 0, .int 0, .int 0])), (h1, .inr (0, [.ref a0, .ref a1, .ref a2, .ref a3, .ref a4, .ref a5, .ref a6, .ref a7, .ref a8, .int 0, .int 0, .int 0, .int 0, .int 1, .int 0, .int 0, .int 0]))]) sz) := by
  refine gx_metE (Qc := fun A => gx_Qi D (fun (r : Int32) (u : Unit) => r = 1) (fun (u : Unit) => ([(h0, .inr (2, [.ref b0, .int 0, .int 0, .int 0, .int 0, .int 0]))] : va_W)) A) (y := yX4_readOnto) (cc := cX4_readOnto) (n := 5) (ret := (some .int)) (av := [.ref h0, .ref h1]) (by decide) (Nat.le_of_ble_eq_true rfl) ?_
  intro p e s m below meth c A ls C hA hP hD hK hS hl
  obtain ⟨hx, hb, hr, hml, hown, hT, hlk, hin⟩ := id C
  have hown : s.vm.findClass RX4 = some m.cls := hown
  have hl : lv_has ls 5 [(0, .ref h0), (1, .ref h1)] := hl
  refine lv_aload_n hx hb dX4_readOnto_0 rfl (lv_at hl 0 rfl) ?_
  refine lv_iconst (v := (-1)) hx hb dX4_readOnto_1 (by decide) ?_
  refine va_put (D := D) (ci := 2) (v := .int (-1)) (ty := .int) (C := RX4) (T := TX4) (N := 6) hx hb hT iw_TX4 tyX4 tyX4_ok nmX4 hown hK.1 hP hD hS 0 rfl rfl 2 (by decide) (hT _ wd_198) (fun _ h9 => h9) rfl (by decide +kernel) rfl rfl (Nat.le_of_ble_eq_true rfl) dX4_readOnto_2 (fun H locs hP hD hS => ?_)
  have hP : va_P D gx_cl [(h0, .inr (2, [.ref b0, .int 0, .int (-1), .int 0, .int 0, .int 0])), (h1, .inr (0, [.ref a0, .ref a1, .ref a2, .ref a3, .ref a4, .ref a5, .ref a6, .ref a7, .ref a8, .int 0, .int 0, .int 0, .int 0, .int 1, .int 0, .int 0, .int 0]))] H := hP
  have hD : va_D A [(h0, .inr (2, [.ref b0, .int 0, .int (-1), .int 0, .int 0, .int 0])), (h1, .inr (0, [.ref a0, .ref a1, .ref a2, .ref a3, .ref a4, .ref a5, .ref a6, .ref a7, .ref a8, .int 0, .int 0, .int 0, .int 0, .int 1, .int 0, .int 0, .int 0]))] := hD
  refine lv_aload_n hx hb dX4_readOnto_5 rfl (lv_at hl 0 rfl) ?_
  refine lv_iconst (v := 0) hx hb dX4_readOnto_6 (by decide) ?_
  refine va_put (D := D) (ci := 2) (v := .int 0) (ty := .int) (C := RX4) (T := TX4) (N := 6) hx hb hT iw_TX4 tyX4 tyX4_ok nmX4 hown hK.1 hP hD hS 0 rfl rfl 5 (by decide) (hT _ wd_202) (fun _ h9 => h9) rfl (by decide +kernel) rfl rfl (Nat.le_of_ble_eq_true rfl) dX4_readOnto_7 (fun H locs hP hD hS => ?_)
  have hP : va_P D gx_cl [(h0, .inr (2, [.ref b0, .int 0, .int (-1), .int 0, .int 0, .int 0])), (h1, .inr (0, [.ref a0, .ref a1, .ref a2, .ref a3, .ref a4, .ref a5, .ref a6, .ref a7, .ref a8, .int 0, .int 0, .int 0, .int 0, .int 1, .int 0, .int 0, .int 0]))] H := hP
  have hD : va_D A [(h0, .inr (2, [.ref b0, .int 0, .int (-1), .int 0, .int 0, .int 0])), (h1, .inr (0, [.ref a0, .ref a1, .ref a2, .ref a3, .ref a4, .ref a5, .ref a6, .ref a7, .ref a8, .int 0, .int 0, .int 0, .int 0, .int 1, .int 0, .int 0, .int 0]))] := hD
  refine lv_aload_n hx hb dX4_readOnto_10 rfl (lv_at hl 0 rfl) ?_
  refine gx_ev (wc := ([(h0, .inr (2, [.ref b0, .int 0, .int (-1), .int 0, .int 0, .int 0]))] : va_W)) (wr := [(h1, .inr (0, [.ref a0, .ref a1, .ref a2, .ref a3, .ref a4, .ref a5, .ref a6, .ref a7, .ref a8, .int 0, .int 0, .int 0, .int 0, .int 1, .int 0, .int 0, .int 0]))]) (isC := [0]) (isR := [1]) hP hD hS hA rfl rfl (by decide) (by decide) (gx_runV (na := 0) (As := []) (rest := []) (ci := 2) C hl.1 hK (gx_subP (wc := ([(h0, .inr (2, [.ref b0, .int 0, .int (-1), .int 0, .int 0, .int 0]))] : va_W)) hP [0] rfl) ((hD.sub (ws' := ([(h0, .inr (2, [.ref b0, .int 0, .int (-1), .int 0, .int 0, .int 0]))] : va_W)) [0] (by decide) rfl).weaken (fun _ _ _ _ => trivial)) (k_advance l D k h0 b0 _) gV_RX4_25 (by decide +kernel) rfl rfl ⟨Nat.le_of_ble_eq_true rfl, Nat.le_of_ble_eq_true rfl⟩ rfl rfl rfl rfl (Nat.le_of_ble_eq_true rfl) dX4_readOnto_11 ⟨Nat.le_of_ble_eq_true rfl, Nat.le_of_ble_eq_true rfl⟩) (fun u_1 H locs h_2 hP hD hS => ?_)
  have hP : va_P D gx_cl [(h1, .inr (0, [.ref a0, .ref a1, .ref a2, .ref a3, .ref a4, .ref a5, .ref a6, .ref a7, .ref a8, .int 0, .int 0, .int 0, .int 0, .int 1, .int 0, .int 0, .int 0])), (h0, .inr (2, [.ref b0, .int 0, .int (-1), .int 0, .int 0, .int 0]))] H := hP
  have hD : va_D A [(h1, .inr (0, [.ref a0, .ref a1, .ref a2, .ref a3, .ref a4, .ref a5, .ref a6, .ref a7, .ref a8, .int 0, .int 0, .int 0, .int 0, .int 1, .int 0, .int 0, .int 0])), (h0, .inr (2, [.ref b0, .int 0, .int (-1), .int 0, .int 0, .int 0]))] := hD
  refine lv_iconst (v := 0) hx hb dX4_readOnto_14 (by decide) ?_
  refine lv_istore_n (lv' := [(2, .int 0), (0, .ref h0), (1, .ref h1)]) hx hb dX4_readOnto_15 rfl hl (by decide) rfl (fun ls hl => ?_)
  refine lv_iconst (v := 1) hx hb dX4_readOnto_16 (by decide) ?_
  refine lv_istore_n (lv' := [(3, .int 1), (2, .int 0), (0, .ref h0), (1, .ref h1)]) hx hb dX4_readOnto_17 rfl hl (by decide) rfl (fun ls hl => ?_)
  refine lv_iconst (v := 0) hx hb dX4_readOnto_18 (by decide) ?_
  refine lv_istore (lv' := [(4, .int 0), (3, .int 1), (2, .int 0), (0, .ref h0), (1, .ref h1)]) hx hb dX4_readOnto_19 hl (by decide) rfl (fun ls hl => ?_)
  refine lv_iload hx hb dX4_readOnto_21 (lv_at hl 0 rfl) ?_
  refine lv_sipush (v := 250) hx hb dX4_readOnto_23 (by decide) ?_
  refine lv_icmp_ge (tgt := 77) hx hb dX4_readOnto_26 (by decide) (fun c_5 => absurd c_5 (by decide)) (fun c_5 => ?_)
  refine lv_iload_n hx hb dX4_readOnto_29 rfl (lv_at hl 1 rfl) ?_
  refine lv_if_eq (tgt := 77) hx hb dX4_readOnto_30 (by decide) (fun c_6 => absurd c_6 (by decide)) (fun c_6 => ?_)
  refine lv_aload_n hx hb dX4_readOnto_33 rfl (lv_at hl 3 rfl) ?_
  refine lv_aload_n hx hb dX4_readOnto_34 rfl (lv_at hl 4 rfl) ?_
  refine gx_ev (wc := ([(h0, .inr (2, [.ref b0, .int 0, .int (-1), .int 0, .int 0, .int 0])), (h1, .inr (0, [.ref a0, .ref a1, .ref a2, .ref a3, .ref a4, .ref a5, .ref a6, .ref a7, .ref a8, .int 0, .int 0, .int 0, .int 0, .int 1, .int 0, .int 0, .int 0]))] : va_W)) (wr := []) (isC := [1, 0]) (isR := []) hP hD hS hA rfl rfl (by decide) (by decide) (gx_runV (na := 1) (As := [.ref h1]) (rest := []) (ci := 2) C hl.1 hK (gx_subP (wc := ([(h0, .inr (2, [.ref b0, .int 0, .int (-1), .int 0, .int 0, .int 0])), (h1, .inr (0, [.ref a0, .ref a1, .ref a2, .ref a3, .ref a4, .ref a5, .ref a6, .ref a7, .ref a8, .int 0, .int 0, .int 0, .int 0, .int 1, .int 0, .int 0, .int 0]))] : va_W)) hP [1, 0] rfl) ((hD.sub (ws' := ([(h0, .inr (2, [.ref b0, .int 0, .int (-1), .int 0, .int 0, .int 0])), (h1, .inr (0, [.ref a0, .ref a1, .ref a2, .ref a3, .ref a4, .ref a5, .ref a6, .ref a7, .ref a8, .int 0, .int 0, .int 0, .int 0, .int 1, .int 0, .int 0, .int 0]))] : va_W)) [1, 0] (by decide) rfl).weaken (fun _ _ _ _ => trivial)) (k_readStatement l D k h0 b0 h1 a0 a1 a2 a3 a4 a5 a6 a7 a8 _) gV_RX4_28 (by decide +kernel) rfl rfl ⟨Nat.le_of_ble_eq_true rfl, Nat.le_of_ble_eq_true rfl⟩ rfl rfl rfl rfl (Nat.le_of_ble_eq_true rfl) dX4_readOnto_35 ⟨Nat.le_of_ble_eq_true rfl, Nat.le_of_ble_eq_true rfl⟩) (fun u_7 H locs h_8 hP hD hS => ?_)
  have hP : va_P D gx_cl [(h0, .inr (2, [.ref b0, .int 0, .int 0, .int 0, .int 0, .int 0]))] H := hP
  have hD : va_D A [(h0, .inr (2, [.ref b0, .int 0, .int 0, .int 0, .int 0, .int 0]))] := hD
  refine lv_iinc (v := 1) (lv' := [(2, .int 1), (4, .int 0), (3, .int 1), (0, .ref h0), (1, .ref h1)]) hx hb dX4_readOnto_38 hl (k := 2) rfl (by decide) (by decide) rfl (fun ls hl => ?_)
  refine lv_aload_n hx hb dX4_readOnto_41 rfl (lv_at hl 3 rfl) ?_
  refine va_get (D := D) (ci := 2) (v := .int 0) (C := RX4) (T := TX4) (N := 6) hx hb hT iw_TX4 hown hK.1 hP 0 rfl rfl 2 (by decide) (hT _ wd_198) (fun _ h9 => h9) rfl dX4_readOnto_42 ?_
  refine lv_iconst (v := (-1)) hx hb dX4_readOnto_45 (by decide) ?_
  refine lv_icmp_ne (tgt := 61) hx hb dX4_readOnto_46 (by decide) (fun c_11 => ?_) (fun c_11 => absurd c_11 (by decide))
  refine lv_iconst (v := 0) hx hb dX4_readOnto_61 (by decide) ?_
  refine lv_istore_n (lv' := [(3, .int 0), (2, .int 1), (4, .int 0), (0, .ref h0), (1, .ref h1)]) hx hb dX4_readOnto_62 rfl hl (by decide) rfl (fun ls hl => ?_)
  refine lv_iload_n hx hb dX4_readOnto_63 rfl (lv_at hl 0 rfl) ?_
  refine lv_if_eq (tgt := 71) hx hb dX4_readOnto_64 (by decide) (fun c_12 => ?_) (fun c_12 => absurd (by decide) c_12)
  refine lv_iinc (v := 1) (lv' := [(4, .int 1), (3, .int 0), (2, .int 1), (0, .ref h0), (1, .ref h1)]) hx hb dX4_readOnto_71 hl (k := 2) rfl (by decide) (by decide) rfl (fun ls hl => ?_)
  refine lv_goto (tgt := 21) hx hb dX4_readOnto_74 (by decide) ?_
  refine lv_iload hx hb dX4_readOnto_21 (lv_at hl 0 rfl) ?_
  refine lv_sipush (v := 250) hx hb dX4_readOnto_23 (by decide) ?_
  refine lv_icmp_ge (tgt := 77) hx hb dX4_readOnto_26 (by decide) (fun c_13 => absurd c_13 (by decide)) (fun c_13 => ?_)
  refine lv_iload_n hx hb dX4_readOnto_29 rfl (lv_at hl 1 rfl) ?_
  refine lv_if_eq (tgt := 77) hx hb dX4_readOnto_30 (by decide) (fun c_14 => ?_) (fun c_14 => absurd (by decide) c_14)
  refine lv_aload_n hx hb dX4_readOnto_77 rfl (lv_at hl 3 rfl) ?_
  refine va_get (D := D) (ci := 2) (v := .int 0) (C := RX4) (T := TX4) (N := 6) hx hb hT iw_TX4 hown hK.1 hP 0 rfl rfl 3 (by decide) (hT _ wd_200) (fun _ h9 => h9) rfl dX4_readOnto_78 ?_
  refine lv_if_eq (tgt := 88) hx hb dX4_readOnto_81 (by decide) (fun c_15 => ?_) (fun c_15 => absurd (by decide) c_15)
  refine lv_iload_n hx hb dX4_readOnto_88 rfl (lv_at hl 2 rfl) ?_
  have hP9 := gx_subP (wc := ([(h0, .inr (2, [.ref b0, .int 0, .int 0, .int 0, .int 0, .int 0]))] : va_W)) hP [0] rfl
  have hD9 := hD.sub (ws' := ([(h0, .inr (2, [.ref b0, .int 0, .int 0, .int 0, .int 0, .int 0]))] : va_W)) [0] (by decide) rfl
  exact gx_retI C (u := ()) hP9 hD9 hS (rfl) dX4_readOnto_89
set_option maxHeartbeats 4000000 in
set_option maxRecDepth 100000 in
theorem k_bitCount0 (l : Launch) (D : va_G) (k : Nat → ClassId) (sz : Nat) : Met l yJ6_bitCount_0f7a4 (.code yJ6_bitCount_0f7a4 cJ6_bitCount_0f7a4 1 (some .int) :: gx_T) ({ frames := 0, cells := 0, slots := 0, locals := 0 }) (gx_Pre D k [.int 0] ([]) sz) (gx_Pi (fun r => r = 0)) 0 0 gx_No := by
  refine gx_metP (y := yJ6_bitCount_0f7a4) (cc := cJ6_bitCount_0f7a4) (n := 1) (ret := (some .int)) (av := [.int 0]) (by decide) (Nat.le_of_ble_eq_true rfl) ?_
  intro p e s m below meth c ls C hP hD hK hS hl
  obtain ⟨hx, hb, hr, hml, hown, hT, hlk, hin⟩ := id C
  have hown : s.vm.findClass RJ6 = some m.cls := hown
  have hl : lv_has ls 1 [(0, .int 0)] := hl
  refine lv_iload_n hx hb dJ6_bitCount_0f7a4_0 rfl (lv_at hl 0 rfl) ?_
  refine lv_iload_n hx hb dJ6_bitCount_0f7a4_1 rfl (lv_at hl 0 rfl) ?_
  refine lv_iconst (v := 1) hx hb dJ6_bitCount_0f7a4_2 (by decide) ?_
  refine lv_iushr (v := 0) hx hb dJ6_bitCount_0f7a4_3 (by decide) ?_
  refine lv_ldcw (v := 1431655765) hx hb hown (hT _ wd_753) dJ6_bitCount_0f7a4_4 ?_
  refine lv_iand hx hb dJ6_bitCount_0f7a4_7 ?_
  refine gx_cst (v := 0) (by decide) ?_
  refine lv_isub hx hb dJ6_bitCount_0f7a4_8 ?_
  refine gx_cst (v := 0) (by decide) ?_
  refine lv_istore_n (lv' := [(0, .int 0)]) hx hb dJ6_bitCount_0f7a4_9 rfl hl (by decide) rfl (fun ls hl => ?_)
  refine lv_iload_n hx hb dJ6_bitCount_0f7a4_10 rfl (lv_at hl 0 rfl) ?_
  refine lv_ldcw (v := 858993459) hx hb hown (hT _ wd_754) dJ6_bitCount_0f7a4_11 ?_
  refine lv_iand hx hb dJ6_bitCount_0f7a4_14 ?_
  refine gx_cst (v := 0) (by decide) ?_
  refine lv_iload_n hx hb dJ6_bitCount_0f7a4_15 rfl (lv_at hl 0 rfl) ?_
  refine lv_iconst (v := 2) hx hb dJ6_bitCount_0f7a4_16 (by decide) ?_
  refine lv_iushr (v := 0) hx hb dJ6_bitCount_0f7a4_17 (by decide) ?_
  refine lv_ldcw (v := 858993459) hx hb hown (hT _ wd_754) dJ6_bitCount_0f7a4_18 ?_
  refine lv_iand hx hb dJ6_bitCount_0f7a4_21 ?_
  refine gx_cst (v := 0) (by decide) ?_
  refine lv_iadd hx hb dJ6_bitCount_0f7a4_22 ?_
  refine gx_cst (v := 0) (by decide) ?_
  refine lv_istore_n (lv' := [(0, .int 0)]) hx hb dJ6_bitCount_0f7a4_23 rfl hl (by decide) rfl (fun ls hl => ?_)
  refine lv_iload_n hx hb dJ6_bitCount_0f7a4_24 rfl (lv_at hl 0 rfl) ?_
  refine lv_iload_n hx hb dJ6_bitCount_0f7a4_25 rfl (lv_at hl 0 rfl) ?_
  refine lv_iconst (v := 4) hx hb dJ6_bitCount_0f7a4_26 (by decide) ?_
  refine lv_iushr (v := 0) hx hb dJ6_bitCount_0f7a4_27 (by decide) ?_
  refine lv_iadd hx hb dJ6_bitCount_0f7a4_28 ?_
  refine gx_cst (v := 0) (by decide) ?_
  refine lv_ldcw (v := 252645135) hx hb hown (hT _ wd_755) dJ6_bitCount_0f7a4_29 ?_
  refine lv_iand hx hb dJ6_bitCount_0f7a4_32 ?_
  refine gx_cst (v := 0) (by decide) ?_
  refine lv_istore_n (lv' := [(0, .int 0)]) hx hb dJ6_bitCount_0f7a4_33 rfl hl (by decide) rfl (fun ls hl => ?_)
  refine lv_iload_n hx hb dJ6_bitCount_0f7a4_34 rfl (lv_at hl 0 rfl) ?_
  refine lv_iload_n hx hb dJ6_bitCount_0f7a4_35 rfl (lv_at hl 0 rfl) ?_
  refine lv_bipush (v := 8) hx hb dJ6_bitCount_0f7a4_36 (by decide) ?_
  refine lv_iushr (v := 0) hx hb dJ6_bitCount_0f7a4_38 (by decide) ?_
  refine lv_iadd hx hb dJ6_bitCount_0f7a4_39 ?_
  refine gx_cst (v := 0) (by decide) ?_
  refine lv_istore_n (lv' := [(0, .int 0)]) hx hb dJ6_bitCount_0f7a4_40 rfl hl (by decide) rfl (fun ls hl => ?_)
  refine lv_iload_n hx hb dJ6_bitCount_0f7a4_41 rfl (lv_at hl 0 rfl) ?_
  refine lv_iload_n hx hb dJ6_bitCount_0f7a4_42 rfl (lv_at hl 0 rfl) ?_
  refine lv_bipush (v := 16) hx hb dJ6_bitCount_0f7a4_43 (by decide) ?_
  refine lv_iushr (v := 0) hx hb dJ6_bitCount_0f7a4_45 (by decide) ?_
  refine lv_iadd hx hb dJ6_bitCount_0f7a4_46 ?_
  refine gx_cst (v := 0) (by decide) ?_
  refine lv_istore_n (lv' := [(0, .int 0)]) hx hb dJ6_bitCount_0f7a4_47 rfl hl (by decide) rfl (fun ls hl => ?_)
  refine lv_iload_n hx hb dJ6_bitCount_0f7a4_48 rfl (lv_at hl 0 rfl) ?_
  refine lv_bipush (v := 63) hx hb dJ6_bitCount_0f7a4_49 (by decide) ?_
  refine lv_iand hx hb dJ6_bitCount_0f7a4_51 ?_
  refine gx_cst (v := 0) (by decide) ?_
  exact gx_retP C hS (rfl) dJ6_bitCount_0f7a4_52
