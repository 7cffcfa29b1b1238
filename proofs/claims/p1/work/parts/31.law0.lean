theorem wd_302 : Cond.methodLink "EachRoadOnceLaw" 13 yX6_row ∈ gx_T := gx_in (List.mem_of_getElem? (i := 302) (by decide +kernel)) (by decide +kernel)
theorem wd_303 : Cond.instanceMethod yX6_row ∈ gx_T := gx_in (List.mem_of_getElem? (i := 303) (by decide +kernel)) (by decide +kernel)
theorem wd_304 : Cond.selects RX6 yX6_row yX6_row ∈ gx_T := gx_in (List.mem_of_getElem? (i := 304) (by decide +kernel)) (by decide +kernel)
theorem wd_305 : Cond.code yX6_row cX6_row 4 (some .int) ∈ gx_T := gx_in (List.mem_of_getElem? (i := 305) (by decide +kernel)) (by decide +kernel)
theorem wd_323 : Cond.methodLink "EachRoadOnceLaw" 20 yX6_set ∈ gx_T := gx_in (List.mem_of_getElem? (i := 323) (by decide +kernel)) (by decide +kernel)
theorem wd_324 : Cond.instanceMethod yX6_set ∈ gx_T := gx_in (List.mem_of_getElem? (i := 324) (by decide +kernel)) (by decide +kernel)
theorem wd_325 : Cond.selects RX6 yX6_set yX6_set ∈ gx_T := gx_in (List.mem_of_getElem? (i := 325) (by decide +kernel)) (by decide +kernel)
theorem wd_326 : Cond.code yX6_set cX6_set 6 (some .int) ∈ gx_T := gx_in (List.mem_of_getElem? (i := 326) (by decide +kernel)) (by decide +kernel)
theorem wd_343 : Cond.methodLink "EachRoadOnceLaw" 25 yX6_copy ∈ gx_T := gx_in (List.mem_of_getElem? (i := 343) (by decide +kernel)) (by decide +kernel)
theorem wd_344 : Cond.instanceMethod yX6_copy ∈ gx_T := gx_in (List.mem_of_getElem? (i := 344) (by decide +kernel)) (by decide +kernel)
theorem wd_345 : Cond.selects RX6 yX6_copy yX6_copy ∈ gx_T := gx_in (List.mem_of_getElem? (i := 345) (by decide +kernel)) (by decide +kernel)
theorem wd_346 : Cond.code yX6_copy cX6_copy 7 (some .int) ∈ gx_T := gx_in (List.mem_of_getElem? (i := 346) (by decide +kernel)) (by decide +kernel)
theorem wd_357 : Cond.methodLink "EachRoadOnceLaw" 30 yX6_element ∈ gx_T := gx_in (List.mem_of_getElem? (i := 357) (by decide +kernel)) (by decide +kernel)
theorem wd_358 : Cond.instanceMethod yX6_element ∈ gx_T := gx_in (List.mem_of_getElem? (i := 358) (by decide +kernel)) (by decide +kernel)
theorem wd_359 : Cond.selects RX6 yX6_element yX6_element ∈ gx_T := gx_in (List.mem_of_getElem? (i := 359) (by decide +kernel)) (by decide +kernel)
theorem wd_360 : Cond.code yX6_element cX6_element 3 (some .long) ∈ gx_T := gx_in (List.mem_of_getElem? (i := 360) (by decide +kernel)) (by decide +kernel)
theorem wd_365 : Cond.methodLink "EachRoadOnceLaw" 35 yX6_holds ∈ gx_T := gx_in (List.mem_of_getElem? (i := 365) (by decide +kernel)) (by decide +kernel)
theorem wd_366 : Cond.instanceMethod yX6_holds ∈ gx_T := gx_in (List.mem_of_getElem? (i := 366) (by decide +kernel)) (by decide +kernel)
theorem wd_367 : Cond.selects RX6 yX6_holds yX6_holds ∈ gx_T := gx_in (List.mem_of_getElem? (i := 367) (by decide +kernel)) (by decide +kernel)
theorem wd_368 : Cond.code yX6_holds cX6_holds 2 (some .int) ∈ gx_T := gx_in (List.mem_of_getElem? (i := 368) (by decide +kernel)) (by decide +kernel)
theorem wd_369 : Cond.methodLink "EachRoadOnceLaw" 40 yX6_rule ∈ gx_T := gx_in (List.mem_of_getElem? (i := 369) (by decide +kernel)) (by decide +kernel)
theorem wd_370 : Cond.instanceMethod yX6_rule ∈ gx_T := gx_in (List.mem_of_getElem? (i := 370) (by decide +kernel)) (by decide +kernel)
theorem wd_371 : Cond.selects RX6 yX6_rule yX6_rule ∈ gx_T := gx_in (List.mem_of_getElem? (i := 371) (by decide +kernel)) (by decide +kernel)
theorem wd_372 : Cond.code yX6_rule cX6_rule 4 (some .int) ∈ gx_T := gx_in (List.mem_of_getElem? (i := 372) (by decide +kernel)) (by decide +kernel)
theorem wd_377 : Cond.methodLink "EachRoadOnceLaw" 44 yX6_says ∈ gx_T := gx_in (List.mem_of_getElem? (i := 377) (by decide +kernel)) (by decide +kernel)
theorem wd_378 : Cond.instanceMethod yX6_says ∈ gx_T := gx_in (List.mem_of_getElem? (i := 378) (by decide +kernel)) (by decide +kernel)
theorem wd_379 : Cond.selects RX6 yX6_says yX6_says ∈ gx_T := gx_in (List.mem_of_getElem? (i := 379) (by decide +kernel)) (by decide +kernel)
theorem wd_380 : Cond.code yX6_says cX6_says 4 (some .int) ∈ gx_T := gx_in (List.mem_of_getElem? (i := 380) (by decide +kernel)) (by decide +kernel)
theorem wd_457 : Cond.methodLink "EachRoadOnceLaw" 49 yX6_road ∈ gx_T := gx_in (List.mem_of_getElem? (i := 457) (by decide +kernel)) (by decide +kernel)
theorem wd_458 : Cond.instanceMethod yX6_road ∈ gx_T := gx_in (List.mem_of_getElem? (i := 458) (by decide +kernel)) (by decide +kernel)
theorem wd_459 : Cond.selects RX6 yX6_road yX6_road ∈ gx_T := gx_in (List.mem_of_getElem? (i := 459) (by decide +kernel)) (by decide +kernel)
theorem wd_460 : Cond.code yX6_road cX6_road 5 (some .int) ∈ gx_T := gx_in (List.mem_of_getElem? (i := 460) (by decide +kernel)) (by decide +kernel)
theorem wd_1042 : Cond.methodLink "EachRoadOnceLaw" 17 yX7_row ∈ gx_T := gx_in (List.mem_of_getElem? (i := 1042) (by decide +kernel)) (by decide +kernel)
theorem wd_1043 : Cond.instanceMethod yX7_row ∈ gx_T := gx_in (List.mem_of_getElem? (i := 1043) (by decide +kernel)) (by decide +kernel)
theorem wd_1044 : Cond.selects RX7 yX7_row yX7_row ∈ gx_T := gx_in (List.mem_of_getElem? (i := 1044) (by decide +kernel)) (by decide +kernel)
theorem wd_1045 : Cond.code yX7_row cX7_row 5 (some .int) ∈ gx_T := gx_in (List.mem_of_getElem? (i := 1045) (by decide +kernel)) (by decide +kernel)
theorem wd_1056 : Cond.methodLink "EachRoadOnceLaw" 24 yX7_set ∈ gx_T := gx_in (List.mem_of_getElem? (i := 1056) (by decide +kernel)) (by decide +kernel)
theorem wd_1057 : Cond.instanceMethod yX7_set ∈ gx_T := gx_in (List.mem_of_getElem? (i := 1057) (by decide +kernel)) (by decide +kernel)
theorem wd_1058 : Cond.selects RX7 yX7_set yX7_set ∈ gx_T := gx_in (List.mem_of_getElem? (i := 1058) (by decide +kernel)) (by decide +kernel)
theorem wd_1059 : Cond.code yX7_set cX7_set 6 (some .int) ∈ gx_T := gx_in (List.mem_of_getElem? (i := 1059) (by decide +kernel)) (by decide +kernel)
theorem wd_1067 : Cond.methodLink "EachRoadOnceLaw" 29 yX7_copy ∈ gx_T := gx_in (List.mem_of_getElem? (i := 1067) (by decide +kernel)) (by decide +kernel)
theorem wd_1068 : Cond.instanceMethod yX7_copy ∈ gx_T := gx_in (List.mem_of_getElem? (i := 1068) (by decide +kernel)) (by decide +kernel)
theorem wd_1069 : Cond.selects RX7 yX7_copy yX7_copy ∈ gx_T := gx_in (List.mem_of_getElem? (i := 1069) (by decide +kernel)) (by decide +kernel)
theorem wd_1070 : Cond.code yX7_copy cX7_copy 7 (some .int) ∈ gx_T := gx_in (List.mem_of_getElem? (i := 1070) (by decide +kernel)) (by decide +kernel)
theorem wd_1071 : Cond.methodLink "EachRoadOnceLaw" 34 yX7_element ∈ gx_T := gx_in (List.mem_of_getElem? (i := 1071) (by decide +kernel)) (by decide +kernel)
theorem wd_1072 : Cond.instanceMethod yX7_element ∈ gx_T := gx_in (List.mem_of_getElem? (i := 1072) (by decide +kernel)) (by decide +kernel)
theorem wd_1073 : Cond.selects RX7 yX7_element yX7_element ∈ gx_T := gx_in (List.mem_of_getElem? (i := 1073) (by decide +kernel)) (by decide +kernel)
theorem wd_1074 : Cond.code yX7_element cX7_element 3 (some .long) ∈ gx_T := gx_in (List.mem_of_getElem? (i := 1074) (by decide +kernel)) (by decide +kernel)
theorem wd_1075 : Cond.methodLink "EachRoadOnceLaw" 39 yX7_holds ∈ gx_T := gx_in (List.mem_of_getElem? (i := 1075) (by decide +kernel)) (by decide +kernel)
theorem wd_1076 : Cond.instanceMethod yX7_holds ∈ gx_T := gx_in (List.mem_of_getElem? (i := 1076) (by decide +kernel)) (by decide +kernel)
theorem wd_1077 : Cond.selects RX7 yX7_holds yX7_holds ∈ gx_T := gx_in (List.mem_of_getElem? (i := 1077) (by decide +kernel)) (by decide +kernel)
theorem wd_1078 : Cond.code yX7_holds cX7_holds 2 (some .int) ∈ gx_T := gx_in (List.mem_of_getElem? (i := 1078) (by decide +kernel)) (by decide +kernel)
theorem wd_1079 : Cond.methodLink "EachRoadOnceLaw" 43 yX7_rule ∈ gx_T := gx_in (List.mem_of_getElem? (i := 1079) (by decide +kernel)) (by decide +kernel)
theorem wd_1080 : Cond.instanceMethod yX7_rule ∈ gx_T := gx_in (List.mem_of_getElem? (i := 1080) (by decide +kernel)) (by decide +kernel)
theorem wd_1081 : Cond.selects RX7 yX7_rule yX7_rule ∈ gx_T := gx_in (List.mem_of_getElem? (i := 1081) (by decide +kernel)) (by decide +kernel)
theorem wd_1082 : Cond.code yX7_rule cX7_rule 4 (some .int) ∈ gx_T := gx_in (List.mem_of_getElem? (i := 1082) (by decide +kernel)) (by decide +kernel)
theorem wd_1085 : Cond.methodLink "EachRoadOnceLaw" 48 yX7_says ∈ gx_T := gx_in (List.mem_of_getElem? (i := 1085) (by decide +kernel)) (by decide +kernel)
theorem wd_1086 : Cond.instanceMethod yX7_says ∈ gx_T := gx_in (List.mem_of_getElem? (i := 1086) (by decide +kernel)) (by decide +kernel)
theorem wd_1087 : Cond.selects RX7 yX7_says yX7_says ∈ gx_T := gx_in (List.mem_of_getElem? (i := 1087) (by decide +kernel)) (by decide +kernel)
theorem wd_1088 : Cond.code yX7_says cX7_says 3 (some .int) ∈ gx_T := gx_in (List.mem_of_getElem? (i := 1088) (by decide +kernel)) (by decide +kernel)
theorem wd_1131 : Cond.methodLink "EachRoadOnceLaw" 53 yX7_road ∈ gx_T := gx_in (List.mem_of_getElem? (i := 1131) (by decide +kernel)) (by decide +kernel)
theorem wd_1132 : Cond.instanceMethod yX7_road ∈ gx_T := gx_in (List.mem_of_getElem? (i := 1132) (by decide +kernel)) (by decide +kernel)
theorem wd_1133 : Cond.selects RX7 yX7_road yX7_road ∈ gx_T := gx_in (List.mem_of_getElem? (i := 1133) (by decide +kernel)) (by decide +kernel)
theorem wd_1134 : Cond.code yX7_road cX7_road 5 (some .int) ∈ gx_T := gx_in (List.mem_of_getElem? (i := 1134) (by decide +kernel)) (by decide +kernel)
theorem wd_1457 : Cond.constantLong "EachRoadOnceLaw" 18 4294967295 ∈ gx_T := gx_in (List.mem_of_getElem? (i := 1457) (by decide +kernel)) (by decide +kernel)
theorem gV_R_law_13 : GoodIn gx_T (wsV R_law 13 RX6 yX6_row (.code yX6_row cX6_row 4 (some .int) :: gx_T)) := gx_gV wd_302 wd_303 wd_304 wd_69 wd_305
theorem gV_R_law_17 : GoodIn gx_T (wsV R_law 17 RX7 yX7_row (.code yX7_row cX7_row 5 (some .int) :: gx_T)) := gx_gV wd_1042 wd_1043 wd_1044 wd_75 wd_1045
theorem gV_R_law_20 : GoodIn gx_T (wsV R_law 20 RX6 yX6_set (.code yX6_set cX6_set 6 (some .int) :: gx_T)) := gx_gV wd_323 wd_324 wd_325 wd_69 wd_326
theorem gV_R_law_24 : GoodIn gx_T (wsV R_law 24 RX7 yX7_set (.code yX7_set cX7_set 6 (some .int) :: gx_T)) := gx_gV wd_1056 wd_1057 wd_1058 wd_75 wd_1059
theorem gV_R_law_25 : GoodIn gx_T (wsV R_law 25 RX6 yX6_copy (.code yX6_copy cX6_copy 7 (some .int) :: gx_T)) := gx_gV wd_343 wd_344 wd_345 wd_69 wd_346
theorem gV_R_law_29 : GoodIn gx_T (wsV R_law 29 RX7 yX7_copy (.code yX7_copy cX7_copy 7 (some .int) :: gx_T)) := gx_gV wd_1067 wd_1068 wd_1069 wd_75 wd_1070
theorem gV_R_law_30 : GoodIn gx_T (wsV R_law 30 RX6 yX6_element (.code yX6_element cX6_element 3 (some .long) :: gx_T)) := gx_gV wd_357 wd_358 wd_359 wd_69 wd_360
theorem gV_R_law_34 : GoodIn gx_T (wsV R_law 34 RX7 yX7_element (.code yX7_element cX7_element 3 (some .long) :: gx_T)) := gx_gV wd_1071 wd_1072 wd_1073 wd_75 wd_1074
theorem gV_R_law_35 : GoodIn gx_T (wsV R_law 35 RX6 yX6_holds (.code yX6_holds cX6_holds 2 (some .int) :: gx_T)) := gx_gV wd_365 wd_366 wd_367 wd_69 wd_368
theorem gV_R_law_39 : GoodIn gx_T (wsV R_law 39 RX7 yX7_holds (.code yX7_holds cX7_holds 2 (some .int) :: gx_T)) := gx_gV wd_1075 wd_1076 wd_1077 wd_75 wd_1078
theorem gV_R_law_40 : GoodIn gx_T (wsV R_law 40 RX6 yX6_rule (.code yX6_rule cX6_rule 4 (some .int) :: gx_T)) := gx_gV wd_369 wd_370 wd_371 wd_69 wd_372
theorem gV_R_law_43 : GoodIn gx_T (wsV R_law 43 RX7 yX7_rule (.code yX7_rule cX7_rule 4 (some .int) :: gx_T)) := gx_gV wd_1079 wd_1080 wd_1081 wd_75 wd_1082
theorem gV_R_law_44 : GoodIn gx_T (wsV R_law 44 RX6 yX6_says (.code yX6_says cX6_says 4 (some .int) :: gx_T)) := gx_gV wd_377 wd_378 wd_379 wd_69 wd_380
theorem gV_R_law_48 : GoodIn gx_T (wsV R_law 48 RX7 yX7_says (.code yX7_says cX7_says 3 (some .int) :: gx_T)) := gx_gV wd_1085 wd_1086 wd_1087 wd_75 wd_1088
theorem gV_R_law_49 : GoodIn gx_T (wsV R_law 49 RX6 yX6_road (.code yX6_road cX6_road 5 (some .int) :: gx_T)) := gx_gV wd_457 wd_458 wd_459 wd_69 wd_460
theorem gV_R_law_53 : GoodIn gx_T (wsV R_law 53 RX7 yX7_road (.code yX7_road cX7_road 5 (some .int) :: gx_T)) := gx_gV wd_1131 wd_1132 wd_1133 wd_75 wd_1134
theorem dL_law_236 : decode code 236 = .ok (.aload_n 1, 1) := by decide +kernel
theorem dL_law_237 : decode code 237 = .ok (.aload_n 0, 1) := by decide +kernel
theorem dL_law_238 : decode code 238 = .ok (.iload_n 3, 1) := by decide +kernel
theorem dL_law_239 : decode code 239 = .ok (.iconst 1, 1) := by decide +kernel
theorem dL_law_240 : decode code 240 = .ok (.iadd, 1) := by decide +kernel
theorem dL_law_241 : decode code 241 = .ok (.iaload, 1) := by decide +kernel
theorem dL_law_242 : decode code 242 = .ok (.aload_n 0, 1) := by decide +kernel
theorem dL_law_243 : decode code 243 = .ok (.iload_n 3, 1) := by decide +kernel
theorem dL_law_244 : decode code 244 = .ok (.iconst 2, 1) := by decide +kernel
theorem dL_law_245 : decode code 245 = .ok (.iadd, 1) := by decide +kernel
theorem dL_law_246 : decode code 246 = .ok (.iaload, 1) := by decide +kernel
theorem dL_law_247 : decode code 247 = .ok (.aload_n 0, 1) := by decide +kernel
theorem dL_law_248 : decode code 248 = .ok (.iload_n 3, 1) := by decide +kernel
theorem dL_law_249 : decode code 249 = .ok (.iconst 3, 1) := by decide +kernel
theorem dL_law_250 : decode code 250 = .ok (.iadd, 1) := by decide +kernel
theorem dL_law_251 : decode code 251 = .ok (.iaload, 1) := by decide +kernel
theorem dL_law_252 : decode code 252 = .ok (.invokevirtual 13, 3) := by decide +kernel
theorem dL_law_255 : decode code 255 = .ok (.aload_n 2, 1) := by decide +kernel
theorem dL_law_256 : decode code 256 = .ok (.aload_n 0, 1) := by decide +kernel
theorem dL_law_257 : decode code 257 = .ok (.iload_n 3, 1) := by decide +kernel
theorem dL_law_258 : decode code 258 = .ok (.iconst 1, 1) := by decide +kernel
theorem dL_law_259 : decode code 259 = .ok (.iadd, 1) := by decide +kernel
theorem dL_law_260 : decode code 260 = .ok (.iaload, 1) := by decide +kernel
theorem dL_law_261 : decode code 261 = .ok (.aload_n 0, 1) := by decide +kernel
theorem dL_law_262 : decode code 262 = .ok (.iload_n 3, 1) := by decide +kernel
theorem dL_law_263 : decode code 263 = .ok (.iconst 2, 1) := by decide +kernel
theorem dL_law_264 : decode code 264 = .ok (.iadd, 1) := by decide +kernel
theorem dL_law_265 : decode code 265 = .ok (.iaload, 1) := by decide +kernel
theorem dL_law_266 : decode code 266 = .ok (.aload_n 0, 1) := by decide +kernel
theorem dL_law_267 : decode code 267 = .ok (.iload_n 3, 1) := by decide +kernel
theorem dL_law_268 : decode code 268 = .ok (.iconst 3, 1) := by decide +kernel
theorem dL_law_269 : decode code 269 = .ok (.iadd, 1) := by decide +kernel
theorem dL_law_270 : decode code 270 = .ok (.iaload, 1) := by decide +kernel
theorem dL_law_271 : decode code 271 = .ok (.invokevirtual 17, 3) := by decide +kernel
theorem dL_law_274 : decode code 274 = .ok (.if_icmp .eq 1532, 3) := by decide +kernel
theorem dL_law_279 : decode code 279 = .ok (.aload_n 1, 1) := by decide +kernel
theorem dL_law_280 : decode code 280 = .ok (.aload_n 0, 1) := by decide +kernel
theorem dL_law_281 : decode code 281 = .ok (.iload_n 3, 1) := by decide +kernel
theorem dL_law_282 : decode code 282 = .ok (.iconst 1, 1) := by decide +kernel
theorem dL_law_283 : decode code 283 = .ok (.iadd, 1) := by decide +kernel
theorem dL_law_284 : decode code 284 = .ok (.iaload, 1) := by decide +kernel
theorem dL_law_285 : decode code 285 = .ok (.aload_n 0, 1) := by decide +kernel
theorem dL_law_286 : decode code 286 = .ok (.iload_n 3, 1) := by decide +kernel
theorem dL_law_287 : decode code 287 = .ok (.iconst 2, 1) := by decide +kernel
theorem dL_law_288 : decode code 288 = .ok (.iadd, 1) := by decide +kernel
theorem dL_law_289 : decode code 289 = .ok (.iaload, 1) := by decide +kernel
theorem dL_law_290 : decode code 290 = .ok (.aload_n 0, 1) := by decide +kernel
theorem dL_law_291 : decode code 291 = .ok (.iload_n 3, 1) := by decide +kernel
theorem dL_law_292 : decode code 292 = .ok (.iconst 3, 1) := by decide +kernel
theorem dL_law_293 : decode code 293 = .ok (.iadd, 1) := by decide +kernel
theorem dL_law_294 : decode code 294 = .ok (.iaload, 1) := by decide +kernel
theorem dL_law_295 : decode code 295 = .ok (.i2l, 1) := by decide +kernel
theorem dL_law_296 : decode code 296 = .ok (.bipush 32, 2) := by decide +kernel
theorem dL_law_298 : decode code 298 = .ok (.lshl, 1) := by decide +kernel
theorem dL_law_299 : decode code 299 = .ok (.aload_n 0, 1) := by decide +kernel
theorem dL_law_300 : decode code 300 = .ok (.iload_n 3, 1) := by decide +kernel
theorem dL_law_301 : decode code 301 = .ok (.iconst 4, 1) := by decide +kernel
theorem dL_law_302 : decode code 302 = .ok (.iadd, 1) := by decide +kernel
theorem dL_law_303 : decode code 303 = .ok (.iaload, 1) := by decide +kernel
theorem dL_law_304 : decode code 304 = .ok (.i2l, 1) := by decide +kernel
theorem dL_law_305 : decode code 305 = .ok (.ldc2_w 18, 3) := by decide +kernel
theorem dL_law_308 : decode code 308 = .ok (.land, 1) := by decide +kernel
theorem dL_law_309 : decode code 309 = .ok (.lor, 1) := by decide +kernel
theorem dL_law_310 : decode code 310 = .ok (.invokevirtual 20, 3) := by decide +kernel
theorem dL_law_313 : decode code 313 = .ok (.aload_n 2, 1) := by decide +kernel
theorem dL_law_314 : decode code 314 = .ok (.aload_n 0, 1) := by decide +kernel
theorem dL_law_315 : decode code 315 = .ok (.iload_n 3, 1) := by decide +kernel
theorem dL_law_316 : decode code 316 = .ok (.iconst 1, 1) := by decide +kernel
theorem dL_law_317 : decode code 317 = .ok (.iadd, 1) := by decide +kernel
theorem dL_law_318 : decode code 318 = .ok (.iaload, 1) := by decide +kernel
theorem dL_law_319 : decode code 319 = .ok (.aload_n 0, 1) := by decide +kernel
theorem dL_law_320 : decode code 320 = .ok (.iload_n 3, 1) := by decide +kernel
theorem dL_law_321 : decode code 321 = .ok (.iconst 2, 1) := by decide +kernel
theorem dL_law_322 : decode code 322 = .ok (.iadd, 1) := by decide +kernel
theorem dL_law_323 : decode code 323 = .ok (.iaload, 1) := by decide +kernel
theorem dL_law_324 : decode code 324 = .ok (.aload_n 0, 1) := by decide +kernel
theorem dL_law_325 : decode code 325 = .ok (.iload_n 3, 1) := by decide +kernel
theorem dL_law_326 : decode code 326 = .ok (.iconst 3, 1) := by decide +kernel
theorem dL_law_327 : decode code 327 = .ok (.iadd, 1) := by decide +kernel
theorem dL_law_328 : decode code 328 = .ok (.iaload, 1) := by decide +kernel
theorem dL_law_329 : decode code 329 = .ok (.i2l, 1) := by decide +kernel
theorem dL_law_330 : decode code 330 = .ok (.bipush 32, 2) := by decide +kernel
theorem dL_law_332 : decode code 332 = .ok (.lshl, 1) := by decide +kernel
theorem dL_law_333 : decode code 333 = .ok (.aload_n 0, 1) := by decide +kernel
theorem dL_law_334 : decode code 334 = .ok (.iload_n 3, 1) := by decide +kernel
theorem dL_law_335 : decode code 335 = .ok (.iconst 4, 1) := by decide +kernel
theorem dL_law_336 : decode code 336 = .ok (.iadd, 1) := by decide +kernel
theorem dL_law_337 : decode code 337 = .ok (.iaload, 1) := by decide +kernel
theorem dL_law_338 : decode code 338 = .ok (.i2l, 1) := by decide +kernel
theorem dL_law_339 : decode code 339 = .ok (.ldc2_w 18, 3) := by decide +kernel
theorem dL_law_342 : decode code 342 = .ok (.land, 1) := by decide +kernel
theorem dL_law_343 : decode code 343 = .ok (.lor, 1) := by decide +kernel
theorem dL_law_344 : decode code 344 = .ok (.invokevirtual 24, 3) := by decide +kernel
theorem dL_law_347 : decode code 347 = .ok (.if_icmp .eq 1459, 3) := by decide +kernel
theorem dL_law_352 : decode code 352 = .ok (.aload_n 1, 1) := by decide +kernel
theorem dL_law_353 : decode code 353 = .ok (.aload_n 0, 1) := by decide +kernel
theorem dL_law_354 : decode code 354 = .ok (.iload_n 3, 1) := by decide +kernel
theorem dL_law_355 : decode code 355 = .ok (.iconst 1, 1) := by decide +kernel
theorem dL_law_356 : decode code 356 = .ok (.iadd, 1) := by decide +kernel
theorem dL_law_357 : decode code 357 = .ok (.iaload, 1) := by decide +kernel
theorem dL_law_358 : decode code 358 = .ok (.aload_n 0, 1) := by decide +kernel
theorem dL_law_359 : decode code 359 = .ok (.iload_n 3, 1) := by decide +kernel
theorem dL_law_360 : decode code 360 = .ok (.iconst 2, 1) := by decide +kernel
theorem dL_law_361 : decode code 361 = .ok (.iadd, 1) := by decide +kernel
theorem dL_law_362 : decode code 362 = .ok (.iaload, 1) := by decide +kernel
theorem dL_law_363 : decode code 363 = .ok (.aload_n 0, 1) := by decide +kernel
theorem dL_law_364 : decode code 364 = .ok (.iload_n 3, 1) := by decide +kernel
theorem dL_law_365 : decode code 365 = .ok (.iconst 3, 1) := by decide +kernel
theorem dL_law_366 : decode code 366 = .ok (.iadd, 1) := by decide +kernel
theorem dL_law_367 : decode code 367 = .ok (.iaload, 1) := by decide +kernel
theorem dL_law_368 : decode code 368 = .ok (.aload_n 0, 1) := by decide +kernel
theorem dL_law_369 : decode code 369 = .ok (.iload_n 3, 1) := by decide +kernel
theorem dL_law_370 : decode code 370 = .ok (.iconst 4, 1) := by decide +kernel
theorem dL_law_371 : decode code 371 = .ok (.iadd, 1) := by decide +kernel
theorem dL_law_372 : decode code 372 = .ok (.iaload, 1) := by decide +kernel
theorem dL_law_373 : decode code 373 = .ok (.aload_n 0, 1) := by decide +kernel
theorem dL_law_374 : decode code 374 = .ok (.iload_n 3, 1) := by decide +kernel
theorem dL_law_375 : decode code 375 = .ok (.iconst 5, 1) := by decide +kernel
theorem dL_law_376 : decode code 376 = .ok (.iadd, 1) := by decide +kernel
theorem dL_law_377 : decode code 377 = .ok (.iaload, 1) := by decide +kernel
theorem dL_law_378 : decode code 378 = .ok (.invokevirtual 25, 3) := by decide +kernel
theorem dL_law_381 : decode code 381 = .ok (.aload_n 2, 1) := by decide +kernel
theorem dL_law_382 : decode code 382 = .ok (.aload_n 0, 1) := by decide +kernel
theorem dL_law_383 : decode code 383 = .ok (.iload_n 3, 1) := by decide +kernel
theorem dL_law_384 : decode code 384 = .ok (.iconst 1, 1) := by decide +kernel
theorem dL_law_385 : decode code 385 = .ok (.iadd, 1) := by decide +kernel
theorem dL_law_386 : decode code 386 = .ok (.iaload, 1) := by decide +kernel
theorem dL_law_387 : decode code 387 = .ok (.aload_n 0, 1) := by decide +kernel
theorem dL_law_388 : decode code 388 = .ok (.iload_n 3, 1) := by decide +kernel
theorem dL_law_389 : decode code 389 = .ok (.iconst 2, 1) := by decide +kernel
theorem dL_law_390 : decode code 390 = .ok (.iadd, 1) := by decide +kernel
theorem dL_law_391 : decode code 391 = .ok (.iaload, 1) := by decide +kernel
theorem dL_law_392 : decode code 392 = .ok (.aload_n 0, 1) := by decide +kernel
theorem dL_law_393 : decode code 393 = .ok (.iload_n 3, 1) := by decide +kernel
theorem dL_law_394 : decode code 394 = .ok (.iconst 3, 1) := by decide +kernel
theorem dL_law_395 : decode code 395 = .ok (.iadd, 1) := by decide +kernel
theorem dL_law_396 : decode code 396 = .ok (.iaload, 1) := by decide +kernel
theorem dL_law_397 : decode code 397 = .ok (.aload_n 0, 1) := by decide +kernel
theorem dL_law_398 : decode code 398 = .ok (.iload_n 3, 1) := by decide +kernel
theorem dL_law_399 : decode code 399 = .ok (.iconst 4, 1) := by decide +kernel
theorem dL_law_400 : decode code 400 = .ok (.iadd, 1) := by decide +kernel
theorem dL_law_401 : decode code 401 = .ok (.iaload, 1) := by decide +kernel
theorem dL_law_402 : decode code 402 = .ok (.aload_n 0, 1) := by decide +kernel
theorem dL_law_403 : decode code 403 = .ok (.iload_n 3, 1) := by decide +kernel
theorem dL_law_404 : decode code 404 = .ok (.iconst 5, 1) := by decide +kernel
theorem dL_law_405 : decode code 405 = .ok (.iadd, 1) := by decide +kernel
theorem dL_law_406 : decode code 406 = .ok (.iaload, 1) := by decide +kernel
theorem dL_law_407 : decode code 407 = .ok (.invokevirtual 29, 3) := by decide +kernel
theorem dL_law_410 : decode code 410 = .ok (.if_icmp .eq 1396, 3) := by decide +kernel
theorem dL_law_415 : decode code 415 = .ok (.aload_n 1, 1) := by decide +kernel
theorem dL_law_416 : decode code 416 = .ok (.aload_n 0, 1) := by decide +kernel
theorem dL_law_417 : decode code 417 = .ok (.iload_n 3, 1) := by decide +kernel
theorem dL_law_418 : decode code 418 = .ok (.iconst 1, 1) := by decide +kernel
theorem dL_law_419 : decode code 419 = .ok (.iadd, 1) := by decide +kernel
theorem dL_law_420 : decode code 420 = .ok (.iaload, 1) := by decide +kernel
theorem dL_law_421 : decode code 421 = .ok (.aload_n 0, 1) := by decide +kernel
theorem dL_law_422 : decode code 422 = .ok (.iload_n 3, 1) := by decide +kernel
theorem dL_law_423 : decode code 423 = .ok (.iconst 2, 1) := by decide +kernel
theorem dL_law_424 : decode code 424 = .ok (.iadd, 1) := by decide +kernel
theorem dL_law_425 : decode code 425 = .ok (.iaload, 1) := by decide +kernel
theorem dL_law_426 : decode code 426 = .ok (.invokevirtual 30, 3) := by decide +kernel
theorem dL_law_429 : decode code 429 = .ok (.aload_n 2, 1) := by decide +kernel
theorem dL_law_430 : decode code 430 = .ok (.aload_n 0, 1) := by decide +kernel
theorem dL_law_431 : decode code 431 = .ok (.iload_n 3, 1) := by decide +kernel
theorem dL_law_432 : decode code 432 = .ok (.iconst 1, 1) := by decide +kernel
theorem dL_law_433 : decode code 433 = .ok (.iadd, 1) := by decide +kernel
theorem dL_law_434 : decode code 434 = .ok (.iaload, 1) := by decide +kernel
theorem dL_law_435 : decode code 435 = .ok (.aload_n 0, 1) := by decide +kernel
theorem dL_law_436 : decode code 436 = .ok (.iload_n 3, 1) := by decide +kernel
theorem dL_law_437 : decode code 437 = .ok (.iconst 2, 1) := by decide +kernel
theorem dL_law_438 : decode code 438 = .ok (.iadd, 1) := by decide +kernel
theorem dL_law_439 : decode code 439 = .ok (.iaload, 1) := by decide +kernel
theorem dL_law_440 : decode code 440 = .ok (.invokevirtual 34, 3) := by decide +kernel
theorem dL_law_443 : decode code 443 = .ok (.lcmp, 1) := by decide +kernel
theorem dL_law_444 : decode code 444 = .ok (.ifCond .eq 1362, 3) := by decide +kernel
theorem dL_law_449 : decode code 449 = .ok (.aload_n 1, 1) := by decide +kernel
theorem dL_law_450 : decode code 450 = .ok (.aload_n 0, 1) := by decide +kernel
theorem dL_law_451 : decode code 451 = .ok (.iload_n 3, 1) := by decide +kernel
theorem dL_law_452 : decode code 452 = .ok (.iconst 1, 1) := by decide +kernel
theorem dL_law_453 : decode code 453 = .ok (.iadd, 1) := by decide +kernel
theorem dL_law_454 : decode code 454 = .ok (.iaload, 1) := by decide +kernel
theorem dL_law_455 : decode code 455 = .ok (.invokevirtual 35, 3) := by decide +kernel
theorem dL_law_458 : decode code 458 = .ok (.aload_n 2, 1) := by decide +kernel
theorem dL_law_459 : decode code 459 = .ok (.aload_n 0, 1) := by decide +kernel
theorem dL_law_460 : decode code 460 = .ok (.iload_n 3, 1) := by decide +kernel
theorem dL_law_461 : decode code 461 = .ok (.iconst 1, 1) := by decide +kernel
theorem dL_law_462 : decode code 462 = .ok (.iadd, 1) := by decide +kernel
theorem dL_law_463 : decode code 463 = .ok (.iaload, 1) := by decide +kernel
theorem dL_law_464 : decode code 464 = .ok (.invokevirtual 39, 3) := by decide +kernel
theorem dL_law_467 : decode code 467 = .ok (.if_icmp .eq 1339, 3) := by decide +kernel
theorem dL_law_472 : decode code 472 = .ok (.aload_n 1, 1) := by decide +kernel
theorem dL_law_473 : decode code 473 = .ok (.aload_n 0, 1) := by decide +kernel
theorem dL_law_474 : decode code 474 = .ok (.iload_n 3, 1) := by decide +kernel
theorem dL_law_475 : decode code 475 = .ok (.iconst 1, 1) := by decide +kernel
theorem dL_law_476 : decode code 476 = .ok (.iadd, 1) := by decide +kernel
theorem dL_law_477 : decode code 477 = .ok (.iaload, 1) := by decide +kernel
theorem dL_law_478 : decode code 478 = .ok (.aload_n 0, 1) := by decide +kernel
theorem dL_law_479 : decode code 479 = .ok (.iload_n 3, 1) := by decide +kernel
theorem dL_law_480 : decode code 480 = .ok (.iconst 2, 1) := by decide +kernel
theorem dL_law_481 : decode code 481 = .ok (.iadd, 1) := by decide +kernel
theorem dL_law_482 : decode code 482 = .ok (.iaload, 1) := by decide +kernel
theorem dL_law_483 : decode code 483 = .ok (.aload_n 0, 1) := by decide +kernel
theorem dL_law_484 : decode code 484 = .ok (.iload_n 3, 1) := by decide +kernel
theorem dL_law_485 : decode code 485 = .ok (.iconst 3, 1) := by decide +kernel
theorem dL_law_486 : decode code 486 = .ok (.iadd, 1) := by decide +kernel
theorem dL_law_487 : decode code 487 = .ok (.iaload, 1) := by decide +kernel
theorem dL_law_488 : decode code 488 = .ok (.invokevirtual 40, 3) := by decide +kernel
theorem dL_law_491 : decode code 491 = .ok (.aload_n 2, 1) := by decide +kernel
theorem dL_law_492 : decode code 492 = .ok (.aload_n 0, 1) := by decide +kernel
theorem dL_law_493 : decode code 493 = .ok (.iload_n 3, 1) := by decide +kernel
theorem dL_law_494 : decode code 494 = .ok (.iconst 1, 1) := by decide +kernel
theorem dL_law_495 : decode code 495 = .ok (.iadd, 1) := by decide +kernel
theorem dL_law_496 : decode code 496 = .ok (.iaload, 1) := by decide +kernel
theorem dL_law_497 : decode code 497 = .ok (.aload_n 0, 1) := by decide +kernel
theorem dL_law_498 : decode code 498 = .ok (.iload_n 3, 1) := by decide +kernel
theorem dL_law_499 : decode code 499 = .ok (.iconst 2, 1) := by decide +kernel
theorem dL_law_500 : decode code 500 = .ok (.iadd, 1) := by decide +kernel
theorem dL_law_501 : decode code 501 = .ok (.iaload, 1) := by decide +kernel
theorem dL_law_502 : decode code 502 = .ok (.aload_n 0, 1) := by decide +kernel
theorem dL_law_503 : decode code 503 = .ok (.iload_n 3, 1) := by decide +kernel
theorem dL_law_504 : decode code 504 = .ok (.iconst 3, 1) := by decide +kernel
theorem dL_law_505 : decode code 505 = .ok (.iadd, 1) := by decide +kernel
theorem dL_law_506 : decode code 506 = .ok (.iaload, 1) := by decide +kernel
theorem dL_law_507 : decode code 507 = .ok (.invokevirtual 43, 3) := by decide +kernel
theorem dL_law_510 : decode code 510 = .ok (.if_icmp .eq 1296, 3) := by decide +kernel
theorem dL_law_515 : decode code 515 = .ok (.aload_n 1, 1) := by decide +kernel
theorem dL_law_516 : decode code 516 = .ok (.aload_n 0, 1) := by decide +kernel
theorem dL_law_517 : decode code 517 = .ok (.iload_n 3, 1) := by decide +kernel
theorem dL_law_518 : decode code 518 = .ok (.iconst 1, 1) := by decide +kernel
theorem dL_law_519 : decode code 519 = .ok (.iadd, 1) := by decide +kernel
theorem dL_law_520 : decode code 520 = .ok (.iaload, 1) := by decide +kernel
theorem dL_law_521 : decode code 521 = .ok (.aload_n 0, 1) := by decide +kernel
theorem dL_law_522 : decode code 522 = .ok (.iload_n 3, 1) := by decide +kernel
theorem dL_law_523 : decode code 523 = .ok (.iconst 2, 1) := by decide +kernel
theorem dL_law_524 : decode code 524 = .ok (.iadd, 1) := by decide +kernel
theorem dL_law_525 : decode code 525 = .ok (.iaload, 1) := by decide +kernel
theorem dL_law_526 : decode code 526 = .ok (.invokevirtual 44, 3) := by decide +kernel
theorem dL_law_529 : decode code 529 = .ok (.aload_n 2, 1) := by decide +kernel
theorem dL_law_530 : decode code 530 = .ok (.aload_n 0, 1) := by decide +kernel
theorem dL_law_531 : decode code 531 = .ok (.iload_n 3, 1) := by decide +kernel
theorem dL_law_532 : decode code 532 = .ok (.iconst 1, 1) := by decide +kernel
theorem dL_law_533 : decode code 533 = .ok (.iadd, 1) := by decide +kernel
theorem dL_law_534 : decode code 534 = .ok (.iaload, 1) := by decide +kernel
theorem dL_law_535 : decode code 535 = .ok (.aload_n 0, 1) := by decide +kernel
theorem dL_law_536 : decode code 536 = .ok (.iload_n 3, 1) := by decide +kernel
theorem dL_law_537 : decode code 537 = .ok (.iconst 2, 1) := by decide +kernel
theorem dL_law_538 : decode code 538 = .ok (.iadd, 1) := by decide +kernel
theorem dL_law_539 : decode code 539 = .ok (.iaload, 1) := by decide +kernel
theorem dL_law_540 : decode code 540 = .ok (.invokevirtual 48, 3) := by decide +kernel
theorem dL_law_543 : decode code 543 = .ok (.if_icmp .eq 1263, 3) := by decide +kernel
theorem dL_law_548 : decode code 548 = .ok (.aload_n 1, 1) := by decide +kernel
theorem dL_law_549 : decode code 549 = .ok (.aload_n 0, 1) := by decide +kernel
theorem dL_law_550 : decode code 550 = .ok (.iload_n 3, 1) := by decide +kernel
theorem dL_law_551 : decode code 551 = .ok (.iconst 1, 1) := by decide +kernel
theorem dL_law_552 : decode code 552 = .ok (.iadd, 1) := by decide +kernel
theorem dL_law_553 : decode code 553 = .ok (.iaload, 1) := by decide +kernel
theorem dL_law_554 : decode code 554 = .ok (.aload_n 0, 1) := by decide +kernel
theorem dL_law_555 : decode code 555 = .ok (.iload_n 3, 1) := by decide +kernel
theorem dL_law_556 : decode code 556 = .ok (.iconst 2, 1) := by decide +kernel
theorem dL_law_557 : decode code 557 = .ok (.iadd, 1) := by decide +kernel
theorem dL_law_558 : decode code 558 = .ok (.iaload, 1) := by decide +kernel
theorem dL_law_559 : decode code 559 = .ok (.aload_n 0, 1) := by decide +kernel
theorem dL_law_560 : decode code 560 = .ok (.iload_n 3, 1) := by decide +kernel
theorem dL_law_561 : decode code 561 = .ok (.iconst 3, 1) := by decide +kernel
theorem dL_law_562 : decode code 562 = .ok (.iadd, 1) := by decide +kernel
theorem dL_law_563 : decode code 563 = .ok (.iaload, 1) := by decide +kernel
theorem dL_law_564 : decode code 564 = .ok (.aload_n 0, 1) := by decide +kernel
theorem dL_law_565 : decode code 565 = .ok (.iload_n 3, 1) := by decide +kernel
theorem dL_law_566 : decode code 566 = .ok (.iconst 4, 1) := by decide +kernel
theorem dL_law_567 : decode code 567 = .ok (.iadd, 1) := by decide +kernel
theorem dL_law_568 : decode code 568 = .ok (.iaload, 1) := by decide +kernel
theorem dL_law_569 : decode code 569 = .ok (.ifCond .eq 7, 3) := by decide +kernel
theorem dL_law_572 : decode code 572 = .ok (.iconst 1, 1) := by decide +kernel
theorem dL_law_573 : decode code 573 = .ok (.goto 4, 3) := by decide +kernel
theorem dL_law_576 : decode code 576 = .ok (.iconst 0, 1) := by decide +kernel
theorem dL_law_577 : decode code 577 = .ok (.invokevirtual 49, 3) := by decide +kernel
theorem dL_law_580 : decode code 580 = .ok (.aload_n 2, 1) := by decide +kernel
theorem dL_law_581 : decode code 581 = .ok (.aload_n 0, 1) := by decide +kernel
theorem dL_law_582 : decode code 582 = .ok (.iload_n 3, 1) := by decide +kernel
theorem dL_law_583 : decode code 583 = .ok (.iconst 1, 1) := by decide +kernel
theorem dL_law_584 : decode code 584 = .ok (.iadd, 1) := by decide +kernel
theorem dL_law_585 : decode code 585 = .ok (.iaload, 1) := by decide +kernel
theorem dL_law_586 : decode code 586 = .ok (.aload_n 0, 1) := by decide +kernel
theorem dL_law_587 : decode code 587 = .ok (.iload_n 3, 1) := by decide +kernel
theorem dL_law_588 : decode code 588 = .ok (.iconst 2, 1) := by decide +kernel
theorem dL_law_589 : decode code 589 = .ok (.iadd, 1) := by decide +kernel
theorem dL_law_590 : decode code 590 = .ok (.iaload, 1) := by decide +kernel
theorem dL_law_591 : decode code 591 = .ok (.aload_n 0, 1) := by decide +kernel
theorem dL_law_592 : decode code 592 = .ok (.iload_n 3, 1) := by decide +kernel
theorem dL_law_593 : decode code 593 = .ok (.iconst 3, 1) := by decide +kernel
theorem dL_law_594 : decode code 594 = .ok (.iadd, 1) := by decide +kernel
theorem dL_law_595 : decode code 595 = .ok (.iaload, 1) := by decide +kernel
theorem dL_law_596 : decode code 596 = .ok (.aload_n 0, 1) := by decide +kernel
theorem dL_law_597 : decode code 597 = .ok (.iload_n 3, 1) := by decide +kernel
theorem dL_law_598 : decode code 598 = .ok (.iconst 4, 1) := by decide +kernel
theorem dL_law_599 : decode code 599 = .ok (.iadd, 1) := by decide +kernel
theorem dL_law_600 : decode code 600 = .ok (.iaload, 1) := by decide +kernel
theorem dL_law_601 : decode code 601 = .ok (.ifCond .eq 7, 3) := by decide +kernel
theorem dL_law_604 : decode code 604 = .ok (.iconst 1, 1) := by decide +kernel
theorem dL_law_605 : decode code 605 = .ok (.goto 4, 3) := by decide +kernel
theorem dL_law_608 : decode code 608 = .ok (.iconst 0, 1) := by decide +kernel
theorem dL_law_609 : decode code 609 = .ok (.invokevirtual 53, 3) := by decide +kernel
theorem dL_law_612 : decode code 612 = .ok (.if_icmp .eq 1194, 3) := by decide +kernel
set_option maxHeartbeats 4000000 in
set_option maxRecDepth 100000 in
theorem lc_row {p : Program} {l : Launch} {e : Env} {s : State} {m : MethodId} {below : List Frame} {meth : Method} {c : Code} {b : Nat} {xs : Nat → Int32} {D : va_G} {k : Nat → ClassId} {A : Nat → Prop} (C0 : lc_C p s m meth c b xs D k A) (ad : Nat → Nat) (fs : Nat → Option Nat) (a : Nat) (el : Nat) (hm : Nat) (am : Nat → Nat) (gr : Nat → Option Nat) (ri : Nat) (hxhf : gx_b (xs 1) 0 7 = true → fs (xs 1).toNatClampNeg = some a) (hmhf : gx_b (xs 1) 0 7 = true → gr (xs 1).toNatClampNeg = some ri) (H : Heap) (locs : List Loc) (ls : Array Slot) (hP : va_P D gx_cl [((ad 0), .inr (4, [.ref (ad 1), .ref (ad 2), .ref (ad 3), .ref (ad 4), .ref (ad 5), .ref (ad 6), .ref (ad 7), .ref (ad 8), .ref (ad 9), .int 0])), ((ad 9), .inl (k 0, 5, .inl (fun _ => 0))), ((ad 5), .inl (k 2, 8, .inr (.inr (.inr (.inr fs))))), (a, .inr (1, [.ref el, .int 0, .int 0, .int (-1)])), (el, .inl (k 1, 40, .inr (.inl (fun _ => 0)))), (hm, .inr (5, [.ref (am 1), .ref (am 2), .ref (am 3), .ref (am 4), .ref (am 5), .ref (am 6), .ref (am 7), .ref (am 8), .int 0, .ref (am 9), .int 0, .ref (am 10), .int 0, .ref (am 11), .ref (am 12), .int 0, .int 0, .int 1, .null, .null, .int 0, .int 0, .int 0, .long 0, .int 0, .ref (am 13), .int 0, .int 0, .int 0, .ref (am 14), .ref (am 15), .ref (am 16), .ref (am 17), .int 0, .ref (am 18), .ref (am 19), .ref (am 20)])), ((am 9), .inl (k 0, 8, .inl (fun _ => 0))), ((am 1), .inl (k 0, 8, .inl (fun _ => 0))), ((am 2), .inl (k 0, 8, .inl (fun _ => 0))), ((am 3), .inl (k 0, 8, .inl (fun _ => 0))), ((am 4), .inl (k 4, 8, .inr (.inr (.inr (.inr gr))))), (ri, .inl (k 1, 40, .inr (.inl (fun _ => 0))))] H) (hD : va_D A [((ad 0), .inr (4, [.ref (ad 1), .ref (ad 2), .ref (ad 3), .ref (ad 4), .ref (ad 5), .ref (ad 6), .ref (ad 7), .ref (ad 8), .ref (ad 9), .int 0])), ((ad 9), .inl (k 0, 5, .inl (fun _ => 0))), ((ad 5), .inl (k 2, 8, .inr (.inr (.inr (.inr fs))))), (a, .inr (1, [.ref el, .int 0, .int 0, .int (-1)])), (el, .inl (k 1, 40, .inr (.inl (fun _ => 0)))), (hm, .inr (5, [.ref (am 1), .ref (am 2), .ref (am 3), .ref (am 4), .ref (am 5), .ref (am 6), .ref (am 7), .ref (am 8), .int 0, .ref (am 9), .int 0, .ref (am 10), .int 0, .ref (am 11), .ref (am 12), .int 0, .int 0, .int 1, .null, .null, .int 0, .int 0, .int 0, .long 0, .int 0, .ref (am 13), .int 0, .int 0, .int 0, .ref (am 14), .ref (am 15), .ref (am 16), .ref (am 17), .int 0, .ref (am 18), .ref (am 19), .ref (am 20)])), ((am 9), .inl (k 0, 8, .inl (fun _ => 0))), ((am 1), .inl (k 0, 8, .inl (fun _ => 0))), ((am 2), .inl (k 0, 8, .inl (fun _ => 0))), ((am 3), .inl (k 0, 8, .inl (fun _ => 0))), ((am 4), .inl (k 4, 8, .inr (.inr (.inr (.inr gr))))), (ri, .inl (k 1, 40, .inr (.inl (fun _ => 0))))]) (hS : va_S A s.heap H locs) (hl : lv_has ls 4 [(3, .int 0), (2, .ref hm), (1, .ref (ad 0)), (0, .ref b)]) : W p l e room_1 s m #[Value.ref b] below meth c H locs 1140 19699 (lw_Z below #[Value.ref b] s) (F0 m 236 ls []) := by
  obtain ⟨C, hK, hX, hbl, hA, hA2, hbA⟩ := id C0
  obtain ⟨hx, hb, hr, hml, hown, hT, hlk, -⟩ := id C
  refine lv_aload_n hx hb dL_law_236 rfl (lv_at hl 2 rfl) ?_
  refine lv_aload_n hx hb dL_law_237 rfl (lv_at hl 3 rfl) ?_
  refine lv_iload_n hx hb dL_law_238 rfl (lv_at hl 0 rfl) ?_
  refine lv_iconst (v := 1) hx hb dL_law_239 (by decide) ?_
  refine lv_iadd hx hb dL_law_240 ?_
  refine gx_cst (v := 1) (by decide) ?_
  refine va_sld hx hb hX hbl hbA hS (gx_vin rfl) dL_law_241 ?_
  refine gx_cst (v := (xs 1)) rfl ?_
  refine lv_aload_n hx hb dL_law_242 rfl (lv_at hl 3 rfl) ?_
  refine lv_iload_n hx hb dL_law_243 rfl (lv_at hl 0 rfl) ?_
  refine lv_iconst (v := 2) hx hb dL_law_244 (by decide) ?_
  refine lv_iadd hx hb dL_law_245 ?_
  refine gx_cst (v := 2) (by decide) ?_
  refine va_sld hx hb hX hbl hbA hS (gx_vin rfl) dL_law_246 ?_
  refine gx_cst (v := (xs 2)) rfl ?_
  refine lv_aload_n hx hb dL_law_247 rfl (lv_at hl 3 rfl) ?_
  refine lv_iload_n hx hb dL_law_248 rfl (lv_at hl 0 rfl) ?_
  refine lv_iconst (v := 3) hx hb dL_law_249 (by decide) ?_
  refine lv_iadd hx hb dL_law_250 ?_
  refine gx_cst (v := 3) (by decide) ?_
  refine va_sld hx hb hX hbl hbA hS (gx_vin rfl) dL_law_251 ?_
  refine gx_cst (v := (xs 3)) rfl ?_
  refine gx_ei (wc := ([((ad 0), .inr (4, [.ref (ad 1), .ref (ad 2), .ref (ad 3), .ref (ad 4), .ref (ad 5), .ref (ad 6), .ref (ad 7), .ref (ad 8), .ref (ad 9), .int 0])), ((ad 9), .inl (k 0, 5, .inl (fun _ => 0))), ((ad 5), .inl (k 2, 8, .inr (.inr (.inr (.inr fs))))), (a, .inr (1, [.ref el, .int 0, .int 0, .int (-1)])), (el, .inl (k 1, 40, .inr (.inl (fun _ => 0))))] : va_W)) (wr := [(hm, .inr (5, [.ref (am 1), .ref (am 2), .ref (am 3), .ref (am 4), .ref (am 5), .ref (am 6), .ref (am 7), .ref (am 8), .int 0, .ref (am 9), .int 0, .ref (am 10), .int 0, .ref (am 11), .ref (am 12), .int 0, .int 0, .int 1, .null, .null, .int 0, .int 0, .int 0, .long 0, .int 0, .ref (am 13), .int 0, .int 0, .int 0, .ref (am 14), .ref (am 15), .ref (am 16), .ref (am 17), .int 0, .ref (am 18), .ref (am 19), .ref (am 20)])), ((am 9), .inl (k 0, 8, .inl (fun _ => 0))), ((am 1), .inl (k 0, 8, .inl (fun _ => 0))), ((am 2), .inl (k 0, 8, .inl (fun _ => 0))), ((am 3), .inl (k 0, 8, .inl (fun _ => 0))), ((am 4), .inl (k 4, 8, .inr (.inr (.inr (.inr gr))))), (ri, .inl (k 1, 40, .inr (.inl (fun _ => 0))))]) (isC := [0, 1, 2, 3, 4]) (isR := [5, 6, 7, 8, 9, 10, 11]) hP hD hS hA rfl rfl (by decide) (by decide) (gx_runV (na := 3) (As := [.int (xs 1), .int (xs 2), .int (xs 3)]) (rest := []) (ci := 4) C hl.1 hK (gx_subP (wc := ([((ad 0), .inr (4, [.ref (ad 1), .ref (ad 2), .ref (ad 3), .ref (ad 4), .ref (ad 5), .ref (ad 6), .ref (ad 7), .ref (ad 8), .ref (ad 9), .int 0])), ((ad 9), .inl (k 0, 5, .inl (fun _ => 0))), ((ad 5), .inl (k 2, 8, .inr (.inr (.inr (.inr fs))))), (a, .inr (1, [.ref el, .int 0, .int 0, .int (-1)])), (el, .inl (k 1, 40, .inr (.inl (fun _ => 0))))] : va_W)) hP [0, 1, 2, 3, 4] rfl) ((hD.sub (ws' := ([((ad 0), .inr (4, [.ref (ad 1), .ref (ad 2), .ref (ad 3), .ref (ad 4), .ref (ad 5), .ref (ad 6), .ref (ad 7), .ref (ad 8), .ref (ad 9), .int 0])), ((ad 9), .inl (k 0, 5, .inl (fun _ => 0))), ((ad 5), .inl (k 2, 8, .inr (.inr (.inr (.inr fs))))), (a, .inr (1, [.ref el, .int 0, .int 0, .int (-1)])), (el, .inl (k 1, 40, .inr (.inl (fun _ => 0))))] : va_W)) [0, 1, 2, 3, 4] (by decide) rfl).weaken (fun _ _ _ _ => trivial)) (x_row l D k ad fs a el (xs 1) (xs 2) (xs 3) hxhf _) gV_R_law_13 (by decide +kernel) rfl rfl ⟨Nat.le_of_ble_eq_true rfl, Nat.le_of_ble_eq_true rfl⟩ rfl rfl rfl rfl (Nat.le_of_ble_eq_true rfl) dL_law_252 ⟨Nat.le_of_ble_eq_true rfl, Nat.le_of_ble_eq_true rfl⟩) (fun r_3 u_1 H locs h_2 hP hD hS => ?_)
  have h_2 : r_3 = (gs_row (xs 1) (xs 2) (xs 3)) := h_2
  have hP : va_P D gx_cl [(hm, .inr (5, [.ref (am 1), .ref (am 2), .ref (am 3), .ref (am 4), .ref (am 5), .ref (am 6), .ref (am 7), .ref (am 8), .int 0, .ref (am 9), .int 0, .ref (am 10), .int 0, .ref (am 11), .ref (am 12), .int 0, .int 0, .int 1, .null, .null, .int 0, .int 0, .int 0, .long 0, .int 0, .ref (am 13), .int 0, .int 0, .int 0, .ref (am 14), .ref (am 15), .ref (am 16), .ref (am 17), .int 0, .ref (am 18), .ref (am 19), .ref (am 20)])), ((am 9), .inl (k 0, 8, .inl (fun _ => 0))), ((am 1), .inl (k 0, 8, .inl (fun _ => 0))), ((am 2), .inl (k 0, 8, .inl (fun _ => 0))), ((am 3), .inl (k 0, 8, .inl (fun _ => 0))), ((am 4), .inl (k 4, 8, .inr (.inr (.inr (.inr gr))))), (ri, .inl (k 1, 40, .inr (.inl (fun _ => 0))))] H := hP
  have hD : va_D A [(hm, .inr (5, [.ref (am 1), .ref (am 2), .ref (am 3), .ref (am 4), .ref (am 5), .ref (am 6), .ref (am 7), .ref (am 8), .int 0, .ref (am 9), .int 0, .ref (am 10), .int 0, .ref (am 11), .ref (am 12), .int 0, .int 0, .int 1, .null, .null, .int 0, .int 0, .int 0, .long 0, .int 0, .ref (am 13), .int 0, .int 0, .int 0, .ref (am 14), .ref (am 15), .ref (am 16), .ref (am 17), .int 0, .ref (am 18), .ref (am 19), .ref (am 20)])), ((am 9), .inl (k 0, 8, .inl (fun _ => 0))), ((am 1), .inl (k 0, 8, .inl (fun _ => 0))), ((am 2), .inl (k 0, 8, .inl (fun _ => 0))), ((am 3), .inl (k 0, 8, .inl (fun _ => 0))), ((am 4), .inl (k 4, 8, .inr (.inr (.inr (.inr gr))))), (ri, .inl (k 1, 40, .inr (.inl (fun _ => 0))))] := hD
  refine lv_aload_n hx hb dL_law_255 rfl (lv_at hl 1 rfl) ?_
  refine lv_aload_n hx hb dL_law_256 rfl (lv_at hl 3 rfl) ?_
  refine lv_iload_n hx hb dL_law_257 rfl (lv_at hl 0 rfl) ?_
  refine lv_iconst (v := 1) hx hb dL_law_258 (by decide) ?_
  refine lv_iadd hx hb dL_law_259 ?_
  refine gx_cst (v := 1) (by decide) ?_
  refine va_sld hx hb hX hbl hbA hS (gx_vin rfl) dL_law_260 ?_
  refine gx_cst (v := (xs 1)) rfl ?_
  refine lv_aload_n hx hb dL_law_261 rfl (lv_at hl 3 rfl) ?_
  refine lv_iload_n hx hb dL_law_262 rfl (lv_at hl 0 rfl) ?_
  refine lv_iconst (v := 2) hx hb dL_law_263 (by decide) ?_
  refine lv_iadd hx hb dL_law_264 ?_
  refine gx_cst (v := 2) (by decide) ?_
  refine va_sld hx hb hX hbl hbA hS (gx_vin rfl) dL_law_265 ?_
  refine gx_cst (v := (xs 2)) rfl ?_
  refine lv_aload_n hx hb dL_law_266 rfl (lv_at hl 3 rfl) ?_
  refine lv_iload_n hx hb dL_law_267 rfl (lv_at hl 0 rfl) ?_
  refine lv_iconst (v := 3) hx hb dL_law_268 (by decide) ?_
  refine lv_iadd hx hb dL_law_269 ?_
  refine gx_cst (v := 3) (by decide) ?_
  refine va_sld hx hb hX hbl hbA hS (gx_vin rfl) dL_law_270 ?_
  refine gx_cst (v := (xs 3)) rfl ?_
  refine gx_ei (wc := ([(hm, .inr (5, [.ref (am 1), .ref (am 2), .ref (am 3), .ref (am 4), .ref (am 5), .ref (am 6), .ref (am 7), .ref (am 8), .int 0, .ref (am 9), .int 0, .ref (am 10), .int 0, .ref (am 11), .ref (am 12), .int 0, .int 0, .int 1, .null, .null, .int 0, .int 0, .int 0, .long 0, .int 0, .ref (am 13), .int 0, .int 0, .int 0, .ref (am 14), .ref (am 15), .ref (am 16), .ref (am 17), .int 0, .ref (am 18), .ref (am 19), .ref (am 20)])), ((am 9), .inl (k 0, 8, .inl (fun _ => 0))), ((am 1), .inl (k 0, 8, .inl (fun _ => 0))), ((am 2), .inl (k 0, 8, .inl (fun _ => 0))), ((am 3), .inl (k 0, 8, .inl (fun _ => 0))), ((am 4), .inl (k 4, 8, .inr (.inr (.inr (.inr gr))))), (ri, .inl (k 1, 40, .inr (.inl (fun _ => 0))))] : va_W)) (wr := []) (isC := [0, 1, 2, 3, 4, 5, 6]) (isR := []) hP hD hS hA rfl rfl (by decide) (by decide) (gx_runV (na := 3) (As := [.int (xs 1), .int (xs 2), .int (xs 3)]) (rest := [.int r_3]) (ci := 5) C hl.1 hK (gx_subP (wc := ([(hm, .inr (5, [.ref (am 1), .ref (am 2), .ref (am 3), .ref (am 4), .ref (am 5), .ref (am 6), .ref (am 7), .ref (am 8), .int 0, .ref (am 9), .int 0, .ref (am 10), .int 0, .ref (am 11), .ref (am 12), .int 0, .int 0, .int 1, .null, .null, .int 0, .int 0, .int 0, .long 0, .int 0, .ref (am 13), .int 0, .int 0, .int 0, .ref (am 14), .ref (am 15), .ref (am 16), .ref (am 17), .int 0, .ref (am 18), .ref (am 19), .ref (am 20)])), ((am 9), .inl (k 0, 8, .inl (fun _ => 0))), ((am 1), .inl (k 0, 8, .inl (fun _ => 0))), ((am 2), .inl (k 0, 8, .inl (fun _ => 0))), ((am 3), .inl (k 0, 8, .inl (fun _ => 0))), ((am 4), .inl (k 4, 8, .inr (.inr (.inr (.inr gr))))), (ri, .inl (k 1, 40, .inr (.inl (fun _ => 0))))] : va_W)) hP [0, 1, 2, 3, 4, 5, 6] rfl) ((hD.sub (ws' := ([(hm, .inr (5, [.ref (am 1), .ref (am 2), .ref (am 3), .ref (am 4), .ref (am 5), .ref (am 6), .ref (am 7), .ref (am 8), .int 0, .ref (am 9), .int 0, .ref (am 10), .int 0, .ref (am 11), .ref (am 12), .int 0, .int 0, .int 1, .null, .null, .int 0, .int 0, .int 0, .long 0, .int 0, .ref (am 13), .int 0, .int 0, .int 0, .ref (am 14), .ref (am 15), .ref (am 16), .ref (am 17), .int 0, .ref (am 18), .ref (am 19), .ref (am 20)])), ((am 9), .inl (k 0, 8, .inl (fun _ => 0))), ((am 1), .inl (k 0, 8, .inl (fun _ => 0))), ((am 2), .inl (k 0, 8, .inl (fun _ => 0))), ((am 3), .inl (k 0, 8, .inl (fun _ => 0))), ((am 4), .inl (k 4, 8, .inr (.inr (.inr (.inr gr))))), (ri, .inl (k 1, 40, .inr (.inl (fun _ => 0))))] : va_W)) [0, 1, 2, 3, 4, 5, 6] (by decide) rfl).weaken (fun _ _ _ _ => trivial)) (m_row_pub l D k hm am gr ri (xs 1) (xs 2) (xs 3) hmhf _) gV_R_law_17 (by decide +kernel) rfl rfl ⟨Nat.le_of_ble_eq_true rfl, Nat.le_of_ble_eq_true rfl⟩ rfl rfl rfl rfl (Nat.le_of_ble_eq_true rfl) dL_law_271 ⟨Nat.le_of_ble_eq_true rfl, Nat.le_of_ble_eq_true rfl⟩) (fun r_7 u_5 H locs h_6 hP hD hS => ?_)
  have h_6 : r_7 = (gs_row (xs 1) (xs 2) (xs 3)) := h_6
  have hP : va_P D gx_cl [] H := hP
  have hD : va_D A [] := hD
  refine lv_icmp_eq (tgt := 1806) hx hb dL_law_274 (by decide) (fun c_9 => ?_) (fun c_9 => absurd (h_2.trans h_6.symm) c_9)
  exact lc_next C0 hS (Nat.le_of_ble_eq_true rfl) (Nat.le_of_ble_eq_true rfl) (lv_sub hl [0, 3] rfl)
set_option maxHeartbeats 4000000 in
set_option maxRecDepth 100000 in
theorem lc_set {p : Program} {l : Launch} {e : Env} {s : State} {m : MethodId} {below : List Frame} {meth : Method} {c : Code} {b : Nat} {xs : Nat → Int32} {D : va_G} {k : Nat → ClassId} {A : Nat → Prop} (C0 : lc_C p s m meth c b xs D k A) (ad : Nat → Nat) (fs : Nat → Option Nat) (a : Nat) (el : Nat) (hm : Nat) (am : Nat → Nat) (hxhf : gx_b (xs 1) 0 7 = true → fs (xs 1).toNatClampNeg = some a) (H : Heap) (locs : List Loc) (ls : Array Slot) (hP : va_P D gx_cl [((ad 0), .inr (4, [.ref (ad 1), .ref (ad 2), .ref (ad 3), .ref (ad 4), .ref (ad 5), .ref (ad 6), .ref (ad 7), .ref (ad 8), .ref (ad 9), .int 0])), ((ad 9), .inl (k 0, 5, .inl (fun _ => 0))), ((ad 5), .inl (k 2, 8, .inr (.inr (.inr (.inr fs))))), (a, .inr (1, [.ref el, .int 0, .int 0, .int (-1)])), (hm, .inr (5, [.ref (am 1), .ref (am 2), .ref (am 3), .ref (am 4), .ref (am 5), .ref (am 6), .ref (am 7), .ref (am 8), .int 0, .ref (am 9), .int 0, .ref (am 10), .int 0, .ref (am 11), .ref (am 12), .int 0, .int 0, .int 1, .null, .null, .int 0, .int 0, .int 0, .long 0, .int 0, .ref (am 13), .int 0, .int 0, .int 0, .ref (am 14), .ref (am 15), .ref (am 16), .ref (am 17), .int 0, .ref (am 18), .ref (am 19), .ref (am 20)])), ((am 9), .inl (k 0, 8, .inl (fun _ => 0))), ((am 1), .inl (k 0, 8, .inl (fun _ => 0)))] H) (hD : va_D A [((ad 0), .inr (4, [.ref (ad 1), .ref (ad 2), .ref (ad 3), .ref (ad 4), .ref (ad 5), .ref (ad 6), .ref (ad 7), .ref (ad 8), .ref (ad 9), .int 0])), ((ad 9), .inl (k 0, 5, .inl (fun _ => 0))), ((ad 5), .inl (k 2, 8, .inr (.inr (.inr (.inr fs))))), (a, .inr (1, [.ref el, .int 0, .int 0, .int (-1)])), (hm, .inr (5, [.ref (am 1), .ref (am 2), .ref (am 3), .ref (am 4), .ref (am 5), .ref (am 6), .ref (am 7), .ref (am 8), .int 0, .ref (am 9), .int 0, .ref (am 10), .int 0, .ref (am 11), .ref (am 12), .int 0, .int 0, .int 1, .null, .null, .int 0, .int 0, .int 0, .long 0, .int 0, .ref (am 13), .int 0, .int 0, .int 0, .ref (am 14), .ref (am 15), .ref (am 16), .ref (am 17), .int 0, .ref (am 18), .ref (am 19), .ref (am 20)])), ((am 9), .inl (k 0, 8, .inl (fun _ => 0))), ((am 1), .inl (k 0, 8, .inl (fun _ => 0)))]) (hS : va_S A s.heap H locs) (hl : lv_has ls 4 [(3, .int 0), (2, .ref hm), (1, .ref (ad 0)), (0, .ref b)]) : W p l e room_1 s m #[Value.ref b] below meth c H locs 1140 19699 (lw_Z below #[Value.ref b] s) (F0 m 279 ls []) := by
  obtain ⟨C, hK, hX, hbl, hA, hA2, hbA⟩ := id C0
  obtain ⟨hx, hb, hr, hml, hown, hT, hlk, -⟩ := id C
  refine lv_aload_n hx hb dL_law_279 rfl (lv_at hl 2 rfl) ?_
  refine lv_aload_n hx hb dL_law_280 rfl (lv_at hl 3 rfl) ?_
  refine lv_iload_n hx hb dL_law_281 rfl (lv_at hl 0 rfl) ?_
  refine lv_iconst (v := 1) hx hb dL_law_282 (by decide) ?_
  refine lv_iadd hx hb dL_law_283 ?_
  refine gx_cst (v := 1) (by decide) ?_
  refine va_sld hx hb hX hbl hbA hS (gx_vin rfl) dL_law_284 ?_
  refine gx_cst (v := (xs 1)) rfl ?_
  refine lv_aload_n hx hb dL_law_285 rfl (lv_at hl 3 rfl) ?_
  refine lv_iload_n hx hb dL_law_286 rfl (lv_at hl 0 rfl) ?_
  refine lv_iconst (v := 2) hx hb dL_law_287 (by decide) ?_
  refine lv_iadd hx hb dL_law_288 ?_
  refine gx_cst (v := 2) (by decide) ?_
  refine va_sld hx hb hX hbl hbA hS (gx_vin rfl) dL_law_289 ?_
  refine gx_cst (v := (xs 2)) rfl ?_
  refine lv_aload_n hx hb dL_law_290 rfl (lv_at hl 3 rfl) ?_
  refine lv_iload_n hx hb dL_law_291 rfl (lv_at hl 0 rfl) ?_
  refine lv_iconst (v := 3) hx hb dL_law_292 (by decide) ?_
  refine lv_iadd hx hb dL_law_293 ?_
  refine gx_cst (v := 3) (by decide) ?_
  refine va_sld hx hb hX hbl hbA hS (gx_vin rfl) dL_law_294 ?_
  refine gx_cst (v := (xs 3)) rfl ?_
  refine lv_i2l (v := ((xs 3)).toInt64) hx hb dL_law_295 (rfl) ?_
  refine lv_bipush (v := 32) hx hb dL_law_296 (by decide) ?_
  obtain ⟨z_1, ez_1⟩ : ∃ z : Int64, ((xs 3)).toInt64 <<< ((32 : Int32).toInt64 &&& 63) = z := ⟨_, rfl⟩
  refine lv_lshl (v := z_1) hx hb dL_law_298 ez_1 ?_
  refine lv_aload_n hx hb dL_law_299 rfl (lv_at hl 3 rfl) ?_
  refine lv_iload_n hx hb dL_law_300 rfl (lv_at hl 0 rfl) ?_
  refine lv_iconst (v := 4) hx hb dL_law_301 (by decide) ?_
  refine lv_iadd hx hb dL_law_302 ?_
  refine gx_cst (v := 4) (by decide) ?_
  refine va_sld hx hb hX hbl hbA hS (gx_vin rfl) dL_law_303 ?_
  refine gx_cst (v := (xs 4)) rfl ?_
  refine lv_i2l (v := ((xs 4)).toInt64) hx hb dL_law_304 (rfl) ?_
  refine lv_ldc2 (v := 4294967295) hx hb hown (hT _ wd_1457) dL_law_305 ?_
  refine lv_land hx hb dL_law_308 ?_
  refine lv_topl (fun z_2 ez_2 => ?_)
  refine lv_lor hx hb dL_law_309 ?_
  refine lv_topl (fun z_3 ez_3 => ?_)
  refine gx_ei (wc := ([((ad 0), .inr (4, [.ref (ad 1), .ref (ad 2), .ref (ad 3), .ref (ad 4), .ref (ad 5), .ref (ad 6), .ref (ad 7), .ref (ad 8), .ref (ad 9), .int 0])), ((ad 9), .inl (k 0, 5, .inl (fun _ => 0))), ((ad 5), .inl (k 2, 8, .inr (.inr (.inr (.inr fs))))), (a, .inr (1, [.ref el, .int 0, .int 0, .int (-1)]))] : va_W)) (wr := [(hm, .inr (5, [.ref (am 1), .ref (am 2), .ref (am 3), .ref (am 4), .ref (am 5), .ref (am 6), .ref (am 7), .ref (am 8), .int 0, .ref (am 9), .int 0, .ref (am 10), .int 0, .ref (am 11), .ref (am 12), .int 0, .int 0, .int 1, .null, .null, .int 0, .int 0, .int 0, .long 0, .int 0, .ref (am 13), .int 0, .int 0, .int 0, .ref (am 14), .ref (am 15), .ref (am 16), .ref (am 17), .int 0, .ref (am 18), .ref (am 19), .ref (am 20)])), ((am 9), .inl (k 0, 8, .inl (fun _ => 0))), ((am 1), .inl (k 0, 8, .inl (fun _ => 0)))]) (isC := [0, 1, 2, 3]) (isR := [4, 5, 6]) hP hD hS hA rfl rfl (by decide) (by decide) (gx_runV (na := 3) (As := [.int (xs 1), .int (xs 2), .long z_3]) (rest := []) (ci := 4) C hl.1 hK (gx_subP (wc := ([((ad 0), .inr (4, [.ref (ad 1), .ref (ad 2), .ref (ad 3), .ref (ad 4), .ref (ad 5), .ref (ad 6), .ref (ad 7), .ref (ad 8), .ref (ad 9), .int 0])), ((ad 9), .inl (k 0, 5, .inl (fun _ => 0))), ((ad 5), .inl (k 2, 8, .inr (.inr (.inr (.inr fs))))), (a, .inr (1, [.ref el, .int 0, .int 0, .int (-1)]))] : va_W)) hP [0, 1, 2, 3] rfl) ((hD.sub (ws' := ([((ad 0), .inr (4, [.ref (ad 1), .ref (ad 2), .ref (ad 3), .ref (ad 4), .ref (ad 5), .ref (ad 6), .ref (ad 7), .ref (ad 8), .ref (ad 9), .int 0])), ((ad 9), .inl (k 0, 5, .inl (fun _ => 0))), ((ad 5), .inl (k 2, 8, .inr (.inr (.inr (.inr fs))))), (a, .inr (1, [.ref el, .int 0, .int 0, .int (-1)]))] : va_W)) [0, 1, 2, 3] (by decide) rfl).weaken (fun _ _ _ _ => trivial)) (x_set l D k ad fs a el (xs 1) (xs 2) z_3 hxhf _) gV_R_law_20 (by decide +kernel) rfl rfl ⟨Nat.le_of_ble_eq_true rfl, Nat.le_of_ble_eq_true rfl⟩ rfl rfl rfl rfl (Nat.le_of_ble_eq_true rfl) dL_law_310 ⟨Nat.le_of_ble_eq_true rfl, Nat.le_of_ble_eq_true rfl⟩) (fun r_6 u_4 H locs h_5 hP hD hS => ?_)
  have h_5 : r_6 = (gs_set (xs 1)) := h_5
  have hP : va_P D gx_cl [(hm, .inr (5, [.ref (am 1), .ref (am 2), .ref (am 3), .ref (am 4), .ref (am 5), .ref (am 6), .ref (am 7), .ref (am 8), .int 0, .ref (am 9), .int 0, .ref (am 10), .int 0, .ref (am 11), .ref (am 12), .int 0, .int 0, .int 1, .null, .null, .int 0, .int 0, .int 0, .long 0, .int 0, .ref (am 13), .int 0, .int 0, .int 0, .ref (am 14), .ref (am 15), .ref (am 16), .ref (am 17), .int 0, .ref (am 18), .ref (am 19), .ref (am 20)])), ((am 9), .inl (k 0, 8, .inl (fun _ => 0))), ((am 1), .inl (k 0, 8, .inl (fun _ => 0)))] H := hP
  have hD : va_D A [(hm, .inr (5, [.ref (am 1), .ref (am 2), .ref (am 3), .ref (am 4), .ref (am 5), .ref (am 6), .ref (am 7), .ref (am 8), .int 0, .ref (am 9), .int 0, .ref (am 10), .int 0, .ref (am 11), .ref (am 12), .int 0, .int 0, .int 1, .null, .null, .int 0, .int 0, .int 0, .long 0, .int 0, .ref (am 13), .int 0, .int 0, .int 0, .ref (am 14), .ref (am 15), .ref (am 16), .ref (am 17), .int 0, .ref (am 18), .ref (am 19), .ref (am 20)])), ((am 9), .inl (k 0, 8, .inl (fun _ => 0))), ((am 1), .inl (k 0, 8, .inl (fun _ => 0)))] := hD
  refine lv_aload_n hx hb dL_law_313 rfl (lv_at hl 1 rfl) ?_
  refine lv_aload_n hx hb dL_law_314 rfl (lv_at hl 3 rfl) ?_
  refine lv_iload_n hx hb dL_law_315 rfl (lv_at hl 0 rfl) ?_
  refine lv_iconst (v := 1) hx hb dL_law_316 (by decide) ?_
  refine lv_iadd hx hb dL_law_317 ?_
  refine gx_cst (v := 1) (by decide) ?_
  refine va_sld hx hb hX hbl hbA hS (gx_vin rfl) dL_law_318 ?_
  refine gx_cst (v := (xs 1)) rfl ?_
  refine lv_aload_n hx hb dL_law_319 rfl (lv_at hl 3 rfl) ?_
  refine lv_iload_n hx hb dL_law_320 rfl (lv_at hl 0 rfl) ?_
  refine lv_iconst (v := 2) hx hb dL_law_321 (by decide) ?_
  refine lv_iadd hx hb dL_law_322 ?_
  refine gx_cst (v := 2) (by decide) ?_
  refine va_sld hx hb hX hbl hbA hS (gx_vin rfl) dL_law_323 ?_
  refine gx_cst (v := (xs 2)) rfl ?_
  refine lv_aload_n hx hb dL_law_324 rfl (lv_at hl 3 rfl) ?_
  refine lv_iload_n hx hb dL_law_325 rfl (lv_at hl 0 rfl) ?_
  refine lv_iconst (v := 3) hx hb dL_law_326 (by decide) ?_
  refine lv_iadd hx hb dL_law_327 ?_
  refine gx_cst (v := 3) (by decide) ?_
  refine va_sld hx hb hX hbl hbA hS (gx_vin rfl) dL_law_328 ?_
  refine gx_cst (v := (xs 3)) rfl ?_
  refine lv_i2l (v := ((xs 3)).toInt64) hx hb dL_law_329 (rfl) ?_
  refine lv_bipush (v := 32) hx hb dL_law_330 (by decide) ?_
  obtain ⟨z_8, ez_8⟩ : ∃ z : Int64, ((xs 3)).toInt64 <<< ((32 : Int32).toInt64 &&& 63) = z := ⟨_, rfl⟩
  refine lv_lshl (v := z_8) hx hb dL_law_332 ez_8 ?_
  refine lv_aload_n hx hb dL_law_333 rfl (lv_at hl 3 rfl) ?_
  refine lv_iload_n hx hb dL_law_334 rfl (lv_at hl 0 rfl) ?_
  refine lv_iconst (v := 4) hx hb dL_law_335 (by decide) ?_
  refine lv_iadd hx hb dL_law_336 ?_
  refine gx_cst (v := 4) (by decide) ?_
  refine va_sld hx hb hX hbl hbA hS (gx_vin rfl) dL_law_337 ?_
  refine gx_cst (v := (xs 4)) rfl ?_
  refine lv_i2l (v := ((xs 4)).toInt64) hx hb dL_law_338 (rfl) ?_
  refine lv_ldc2 (v := 4294967295) hx hb hown (hT _ wd_1457) dL_law_339 ?_
  refine lv_land hx hb dL_law_342 ?_
  refine lv_topl (fun z_9 ez_9 => ?_)
  refine lv_lor hx hb dL_law_343 ?_
  refine lv_topl (fun z_10 ez_10 => ?_)
  refine gx_ei (wc := ([(hm, .inr (5, [.ref (am 1), .ref (am 2), .ref (am 3), .ref (am 4), .ref (am 5), .ref (am 6), .ref (am 7), .ref (am 8), .int 0, .ref (am 9), .int 0, .ref (am 10), .int 0, .ref (am 11), .ref (am 12), .int 0, .int 0, .int 1, .null, .null, .int 0, .int 0, .int 0, .long 0, .int 0, .ref (am 13), .int 0, .int 0, .int 0, .ref (am 14), .ref (am 15), .ref (am 16), .ref (am 17), .int 0, .ref (am 18), .ref (am 19), .ref (am 20)])), ((am 9), .inl (k 0, 8, .inl (fun _ => 0))), ((am 1), .inl (k 0, 8, .inl (fun _ => 0)))] : va_W)) (wr := []) (isC := [0, 1, 2]) (isR := []) hP hD hS hA rfl rfl (by decide) (by decide) (gx_runV (na := 3) (As := [.int (xs 1), .int (xs 2), .long z_10]) (rest := [.int r_6]) (ci := 5) C hl.1 hK (gx_subP (wc := ([(hm, .inr (5, [.ref (am 1), .ref (am 2), .ref (am 3), .ref (am 4), .ref (am 5), .ref (am 6), .ref (am 7), .ref (am 8), .int 0, .ref (am 9), .int 0, .ref (am 10), .int 0, .ref (am 11), .ref (am 12), .int 0, .int 0, .int 1, .null, .null, .int 0, .int 0, .int 0, .long 0, .int 0, .ref (am 13), .int 0, .int 0, .int 0, .ref (am 14), .ref (am 15), .ref (am 16), .ref (am 17), .int 0, .ref (am 18), .ref (am 19), .ref (am 20)])), ((am 9), .inl (k 0, 8, .inl (fun _ => 0))), ((am 1), .inl (k 0, 8, .inl (fun _ => 0)))] : va_W)) hP [0, 1, 2] rfl) ((hD.sub (ws' := ([(hm, .inr (5, [.ref (am 1), .ref (am 2), .ref (am 3), .ref (am 4), .ref (am 5), .ref (am 6), .ref (am 7), .ref (am 8), .int 0, .ref (am 9), .int 0, .ref (am 10), .int 0, .ref (am 11), .ref (am 12), .int 0, .int 0, .int 1, .null, .null, .int 0, .int 0, .int 0, .long 0, .int 0, .ref (am 13), .int 0, .int 0, .int 0, .ref (am 14), .ref (am 15), .ref (am 16), .ref (am 17), .int 0, .ref (am 18), .ref (am 19), .ref (am 20)])), ((am 9), .inl (k 0, 8, .inl (fun _ => 0))), ((am 1), .inl (k 0, 8, .inl (fun _ => 0)))] : va_W)) [0, 1, 2] (by decide) rfl).weaken (fun _ _ _ _ => trivial)) (m_set_pub l D k hm am (xs 1) (xs 2) z_10 _) gV_R_law_24 (by decide +kernel) rfl rfl ⟨Nat.le_of_ble_eq_true rfl, Nat.le_of_ble_eq_true rfl⟩ rfl rfl rfl rfl (Nat.le_of_ble_eq_true rfl) dL_law_344 ⟨Nat.le_of_ble_eq_true rfl, Nat.le_of_ble_eq_true rfl⟩) (fun r_13 u_11 H locs h_12 hP hD hS => ?_)
  have h_12 : r_13 = (gs_set (xs 1)) := h_12
  have hP : va_P D gx_cl [] H := hP
  have hD : va_D A [] := hD
  refine lv_icmp_eq (tgt := 1806) hx hb dL_law_347 (by decide) (fun c_15 => ?_) (fun c_15 => absurd (h_5.trans h_12.symm) c_15)
  exact lc_next C0 hS (Nat.le_of_ble_eq_true rfl) (Nat.le_of_ble_eq_true rfl) (lv_sub hl [0, 3] rfl)
set_option maxHeartbeats 4000000 in
set_option maxRecDepth 100000 in
theorem lc_copy1 {p : Program} {l : Launch} {e : Env} {s : State} {m : MethodId} {below : List Frame} {meth : Method} {c : Code} {b : Nat} {xs : Nat → Int32} {D : va_G} {k : Nat → ClassId} {A : Nat → Prop} (C0 : lc_C p s m meth c b xs D k A) (ad : Nat → Nat) (fs : Nat → Option Nat) (a : Nat) (el : Nat) (hm : Nat) (am : Nat → Nat) (hxhf : gx_b (xs 1) 0 7 = true → fs (xs 1).toNatClampNeg = some a) (hxhf2 : gx_b (xs 2) 0 7 = true → fs (xs 2).toNatClampNeg = some a) (H : Heap) (locs : List Loc) (ls : Array Slot) (hP : va_P D gx_cl [((ad 0), .inr (4, [.ref (ad 1), .ref (ad 2), .ref (ad 3), .ref (ad 4), .ref (ad 5), .ref (ad 6), .ref (ad 7), .ref (ad 8), .ref (ad 9), .int 0])), ((ad 9), .inl (k 0, 5, .inl (fun _ => 0))), ((ad 5), .inl (k 2, 8, .inr (.inr (.inr (.inr fs))))), (a, .inr (1, [.ref el, .int 0, .int 0, .int (-1)])), (hm, .inr (5, [.ref (am 1), .ref (am 2), .ref (am 3), .ref (am 4), .ref (am 5), .ref (am 6), .ref (am 7), .ref (am 8), .int 0, .ref (am 9), .int 0, .ref (am 10), .int 0, .ref (am 11), .ref (am 12), .int 0, .int 0, .int 1, .null, .null, .int 0, .int 0, .int 0, .long 0, .int 0, .ref (am 13), .int 0, .int 0, .int 0, .ref (am 14), .ref (am 15), .ref (am 16), .ref (am 17), .int 0, .ref (am 18), .ref (am 19), .ref (am 20)])), ((am 9), .inl (k 0, 8, .inl (fun _ => 0))), ((am 1), .inl (k 0, 8, .inl (fun _ => 0)))] H) (hD : va_D A [((ad 0), .inr (4, [.ref (ad 1), .ref (ad 2), .ref (ad 3), .ref (ad 4), .ref (ad 5), .ref (ad 6), .ref (ad 7), .ref (ad 8), .ref (ad 9), .int 0])), ((ad 9), .inl (k 0, 5, .inl (fun _ => 0))), ((ad 5), .inl (k 2, 8, .inr (.inr (.inr (.inr fs))))), (a, .inr (1, [.ref el, .int 0, .int 0, .int (-1)])), (hm, .inr (5, [.ref (am 1), .ref (am 2), .ref (am 3), .ref (am 4), .ref (am 5), .ref (am 6), .ref (am 7), .ref (am 8), .int 0, .ref (am 9), .int 0, .ref (am 10), .int 0, .ref (am 11), .ref (am 12), .int 0, .int 0, .int 1, .null, .null, .int 0, .int 0, .int 0, .long 0, .int 0, .ref (am 13), .int 0, .int 0, .int 0, .ref (am 14), .ref (am 15), .ref (am 16), .ref (am 17), .int 0, .ref (am 18), .ref (am 19), .ref (am 20)])), ((am 9), .inl (k 0, 8, .inl (fun _ => 0))), ((am 1), .inl (k 0, 8, .inl (fun _ => 0)))]) (hS : va_S A s.heap H locs) (hl : lv_has ls 4 [(3, .int 0), (2, .ref hm), (1, .ref (ad 0)), (0, .ref b)]) : W p l e room_1 s m #[Value.ref b] below meth c H locs 1140 19699 (lw_Z below #[Value.ref b] s) (F0 m 352 ls []) := by
  obtain ⟨C, hK, hX, hbl, hA, hA2, hbA⟩ := id C0
  obtain ⟨hx, hb, hr, hml, hown, hT, hlk, -⟩ := id C
  refine lv_aload_n hx hb dL_law_352 rfl (lv_at hl 2 rfl) ?_
  refine lv_aload_n hx hb dL_law_353 rfl (lv_at hl 3 rfl) ?_
  refine lv_iload_n hx hb dL_law_354 rfl (lv_at hl 0 rfl) ?_
  refine lv_iconst (v := 1) hx hb dL_law_355 (by decide) ?_
  refine lv_iadd hx hb dL_law_356 ?_
  refine gx_cst (v := 1) (by decide) ?_
  refine va_sld hx hb hX hbl hbA hS (gx_vin rfl) dL_law_357 ?_
  refine gx_cst (v := (xs 1)) rfl ?_
  refine lv_aload_n hx hb dL_law_358 rfl (lv_at hl 3 rfl) ?_
  refine lv_iload_n hx hb dL_law_359 rfl (lv_at hl 0 rfl) ?_
  refine lv_iconst (v := 2) hx hb dL_law_360 (by decide) ?_
  refine lv_iadd hx hb dL_law_361 ?_
  refine gx_cst (v := 2) (by decide) ?_
  refine va_sld hx hb hX hbl hbA hS (gx_vin rfl) dL_law_362 ?_
  refine gx_cst (v := (xs 2)) rfl ?_
  refine lv_aload_n hx hb dL_law_363 rfl (lv_at hl 3 rfl) ?_
  refine lv_iload_n hx hb dL_law_364 rfl (lv_at hl 0 rfl) ?_
  refine lv_iconst (v := 3) hx hb dL_law_365 (by decide) ?_
  refine lv_iadd hx hb dL_law_366 ?_
  refine gx_cst (v := 3) (by decide) ?_
  refine va_sld hx hb hX hbl hbA hS (gx_vin rfl) dL_law_367 ?_
  refine gx_cst (v := (xs 3)) rfl ?_
  refine lv_aload_n hx hb dL_law_368 rfl (lv_at hl 3 rfl) ?_
  refine lv_iload_n hx hb dL_law_369 rfl (lv_at hl 0 rfl) ?_
  refine lv_iconst (v := 4) hx hb dL_law_370 (by decide) ?_
  refine lv_iadd hx hb dL_law_371 ?_
  refine gx_cst (v := 4) (by decide) ?_
  refine va_sld hx hb hX hbl hbA hS (gx_vin rfl) dL_law_372 ?_
  refine gx_cst (v := (xs 4)) rfl ?_
  refine lv_aload_n hx hb dL_law_373 rfl (lv_at hl 3 rfl) ?_
  refine lv_iload_n hx hb dL_law_374 rfl (lv_at hl 0 rfl) ?_
  refine lv_iconst (v := 5) hx hb dL_law_375 (by decide) ?_
  refine lv_iadd hx hb dL_law_376 ?_
  refine gx_cst (v := 5) (by decide) ?_
  refine va_sld hx hb hX hbl hbA hS (gx_vin rfl) dL_law_377 ?_
  refine gx_cst (v := (xs 5)) rfl ?_
  refine gx_ei (wc := ([((ad 0), .inr (4, [.ref (ad 1), .ref (ad 2), .ref (ad 3), .ref (ad 4), .ref (ad 5), .ref (ad 6), .ref (ad 7), .ref (ad 8), .ref (ad 9), .int 0])), ((ad 9), .inl (k 0, 5, .inl (fun _ => 0))), ((ad 5), .inl (k 2, 8, .inr (.inr (.inr (.inr fs))))), (a, .inr (1, [.ref el, .int 0, .int 0, .int (-1)]))] : va_W)) (wr := [(hm, .inr (5, [.ref (am 1), .ref (am 2), .ref (am 3), .ref (am 4), .ref (am 5), .ref (am 6), .ref (am 7), .ref (am 8), .int 0, .ref (am 9), .int 0, .ref (am 10), .int 0, .ref (am 11), .ref (am 12), .int 0, .int 0, .int 1, .null, .null, .int 0, .int 0, .int 0, .long 0, .int 0, .ref (am 13), .int 0, .int 0, .int 0, .ref (am 14), .ref (am 15), .ref (am 16), .ref (am 17), .int 0, .ref (am 18), .ref (am 19), .ref (am 20)])), ((am 9), .inl (k 0, 8, .inl (fun _ => 0))), ((am 1), .inl (k 0, 8, .inl (fun _ => 0)))]) (isC := [0, 1, 2, 3]) (isR := [4, 5, 6]) hP hD hS hA rfl rfl (by decide) (by decide) (gx_runV (na := 5) (As := [.int (xs 1), .int (xs 2), .int (xs 3), .int (xs 4), .int (xs 5)]) (rest := []) (ci := 4) C hl.1 hK (gx_subP (wc := ([((ad 0), .inr (4, [.ref (ad 1), .ref (ad 2), .ref (ad 3), .ref (ad 4), .ref (ad 5), .ref (ad 6), .ref (ad 7), .ref (ad 8), .ref (ad 9), .int 0])), ((ad 9), .inl (k 0, 5, .inl (fun _ => 0))), ((ad 5), .inl (k 2, 8, .inr (.inr (.inr (.inr fs))))), (a, .inr (1, [.ref el, .int 0, .int 0, .int (-1)]))] : va_W)) hP [0, 1, 2, 3] rfl) ((hD.sub (ws' := ([((ad 0), .inr (4, [.ref (ad 1), .ref (ad 2), .ref (ad 3), .ref (ad 4), .ref (ad 5), .ref (ad 6), .ref (ad 7), .ref (ad 8), .ref (ad 9), .int 0])), ((ad 9), .inl (k 0, 5, .inl (fun _ => 0))), ((ad 5), .inl (k 2, 8, .inr (.inr (.inr (.inr fs))))), (a, .inr (1, [.ref el, .int 0, .int 0, .int (-1)]))] : va_W)) [0, 1, 2, 3] (by decide) rfl).weaken (fun _ _ _ _ => trivial)) (x_copy1 l D k ad fs a el (xs 1) (xs 2) (xs 3) (xs 4) (xs 5) hxhf hxhf2 _) gV_R_law_25 (by decide +kernel) rfl rfl ⟨Nat.le_of_ble_eq_true rfl, Nat.le_of_ble_eq_true rfl⟩ rfl rfl rfl rfl (Nat.le_of_ble_eq_true rfl) dL_law_378 ⟨Nat.le_of_ble_eq_true rfl, Nat.le_of_ble_eq_true rfl⟩) (fun r_3 u_1 H locs h_2 hP hD hS => ?_)
  have h_2 : r_3 = (gs_copy (xs 1) (xs 2)) := h_2
  have hP : va_P D gx_cl [(hm, .inr (5, [.ref (am 1), .ref (am 2), .ref (am 3), .ref (am 4), .ref (am 5), .ref (am 6), .ref (am 7), .ref (am 8), .int 0, .ref (am 9), .int 0, .ref (am 10), .int 0, .ref (am 11), .ref (am 12), .int 0, .int 0, .int 1, .null, .null, .int 0, .int 0, .int 0, .long 0, .int 0, .ref (am 13), .int 0, .int 0, .int 0, .ref (am 14), .ref (am 15), .ref (am 16), .ref (am 17), .int 0, .ref (am 18), .ref (am 19), .ref (am 20)])), ((am 9), .inl (k 0, 8, .inl (fun _ => 0))), ((am 1), .inl (k 0, 8, .inl (fun _ => 0)))] H := hP
  have hD : va_D A [(hm, .inr (5, [.ref (am 1), .ref (am 2), .ref (am 3), .ref (am 4), .ref (am 5), .ref (am 6), .ref (am 7), .ref (am 8), .int 0, .ref (am 9), .int 0, .ref (am 10), .int 0, .ref (am 11), .ref (am 12), .int 0, .int 0, .int 1, .null, .null, .int 0, .int 0, .int 0, .long 0, .int 0, .ref (am 13), .int 0, .int 0, .int 0, .ref (am 14), .ref (am 15), .ref (am 16), .ref (am 17), .int 0, .ref (am 18), .ref (am 19), .ref (am 20)])), ((am 9), .inl (k 0, 8, .inl (fun _ => 0))), ((am 1), .inl (k 0, 8, .inl (fun _ => 0)))] := hD
  refine lv_aload_n hx hb dL_law_381 rfl (lv_at hl 1 rfl) ?_
  refine lv_aload_n hx hb dL_law_382 rfl (lv_at hl 3 rfl) ?_
  refine lv_iload_n hx hb dL_law_383 rfl (lv_at hl 0 rfl) ?_
  refine lv_iconst (v := 1) hx hb dL_law_384 (by decide) ?_
  refine lv_iadd hx hb dL_law_385 ?_
  refine gx_cst (v := 1) (by decide) ?_
  refine va_sld hx hb hX hbl hbA hS (gx_vin rfl) dL_law_386 ?_
  refine gx_cst (v := (xs 1)) rfl ?_
  refine lv_aload_n hx hb dL_law_387 rfl (lv_at hl 3 rfl) ?_
  refine lv_iload_n hx hb dL_law_388 rfl (lv_at hl 0 rfl) ?_
  refine lv_iconst (v := 2) hx hb dL_law_389 (by decide) ?_
  refine lv_iadd hx hb dL_law_390 ?_
  refine gx_cst (v := 2) (by decide) ?_
  refine va_sld hx hb hX hbl hbA hS (gx_vin rfl) dL_law_391 ?_
  refine gx_cst (v := (xs 2)) rfl ?_
  refine lv_aload_n hx hb dL_law_392 rfl (lv_at hl 3 rfl) ?_
  refine lv_iload_n hx hb dL_law_393 rfl (lv_at hl 0 rfl) ?_
  refine lv_iconst (v := 3) hx hb dL_law_394 (by decide) ?_
  refine lv_iadd hx hb dL_law_395 ?_
  refine gx_cst (v := 3) (by decide) ?_
  refine va_sld hx hb hX hbl hbA hS (gx_vin rfl) dL_law_396 ?_
  refine gx_cst (v := (xs 3)) rfl ?_
  refine lv_aload_n hx hb dL_law_397 rfl (lv_at hl 3 rfl) ?_
  refine lv_iload_n hx hb dL_law_398 rfl (lv_at hl 0 rfl) ?_
  refine lv_iconst (v := 4) hx hb dL_law_399 (by decide) ?_
  refine lv_iadd hx hb dL_law_400 ?_
  refine gx_cst (v := 4) (by decide) ?_
  refine va_sld hx hb hX hbl hbA hS (gx_vin rfl) dL_law_401 ?_
  refine gx_cst (v := (xs 4)) rfl ?_
  refine lv_aload_n hx hb dL_law_402 rfl (lv_at hl 3 rfl) ?_
  refine lv_iload_n hx hb dL_law_403 rfl (lv_at hl 0 rfl) ?_
  refine lv_iconst (v := 5) hx hb dL_law_404 (by decide) ?_
  refine lv_iadd hx hb dL_law_405 ?_
  refine gx_cst (v := 5) (by decide) ?_
  refine va_sld hx hb hX hbl hbA hS (gx_vin rfl) dL_law_406 ?_
  refine gx_cst (v := (xs 5)) rfl ?_
  refine gx_ei (wc := ([(hm, .inr (5, [.ref (am 1), .ref (am 2), .ref (am 3), .ref (am 4), .ref (am 5), .ref (am 6), .ref (am 7), .ref (am 8), .int 0, .ref (am 9), .int 0, .ref (am 10), .int 0, .ref (am 11), .ref (am 12), .int 0, .int 0, .int 1, .null, .null, .int 0, .int 0, .int 0, .long 0, .int 0, .ref (am 13), .int 0, .int 0, .int 0, .ref (am 14), .ref (am 15), .ref (am 16), .ref (am 17), .int 0, .ref (am 18), .ref (am 19), .ref (am 20)])), ((am 9), .inl (k 0, 8, .inl (fun _ => 0))), ((am 1), .inl (k 0, 8, .inl (fun _ => 0)))] : va_W)) (wr := []) (isC := [0, 1, 2]) (isR := []) hP hD hS hA rfl rfl (by decide) (by decide) (gx_runV (na := 5) (As := [.int (xs 1), .int (xs 2), .int (xs 3), .int (xs 4), .int (xs 5)]) (rest := [.int r_3]) (ci := 5) C hl.1 hK (gx_subP (wc := ([(hm, .inr (5, [.ref (am 1), .ref (am 2), .ref (am 3), .ref (am 4), .ref (am 5), .ref (am 6), .ref (am 7), .ref (am 8), .int 0, .ref (am 9), .int 0, .ref (am 10), .int 0, .ref (am 11), .ref (am 12), .int 0, .int 0, .int 1, .null, .null, .int 0, .int 0, .int 0, .long 0, .int 0, .ref (am 13), .int 0, .int 0, .int 0, .ref (am 14), .ref (am 15), .ref (am 16), .ref (am 17), .int 0, .ref (am 18), .ref (am 19), .ref (am 20)])), ((am 9), .inl (k 0, 8, .inl (fun _ => 0))), ((am 1), .inl (k 0, 8, .inl (fun _ => 0)))] : va_W)) hP [0, 1, 2] rfl) ((hD.sub (ws' := ([(hm, .inr (5, [.ref (am 1), .ref (am 2), .ref (am 3), .ref (am 4), .ref (am 5), .ref (am 6), .ref (am 7), .ref (am 8), .int 0, .ref (am 9), .int 0, .ref (am 10), .int 0, .ref (am 11), .ref (am 12), .int 0, .int 0, .int 1, .null, .null, .int 0, .int 0, .int 0, .long 0, .int 0, .ref (am 13), .int 0, .int 0, .int 0, .ref (am 14), .ref (am 15), .ref (am 16), .ref (am 17), .int 0, .ref (am 18), .ref (am 19), .ref (am 20)])), ((am 9), .inl (k 0, 8, .inl (fun _ => 0))), ((am 1), .inl (k 0, 8, .inl (fun _ => 0)))] : va_W)) [0, 1, 2] (by decide) rfl).weaken (fun _ _ _ _ => trivial)) (m_copy_pub l D k hm am (xs 1) (xs 2) (xs 3) (xs 4) (xs 5) _) gV_R_law_29 (by decide +kernel) rfl rfl ⟨Nat.le_of_ble_eq_true rfl, Nat.le_of_ble_eq_true rfl⟩ rfl rfl rfl rfl (Nat.le_of_ble_eq_true rfl) dL_law_407 ⟨Nat.le_of_ble_eq_true rfl, Nat.le_of_ble_eq_true rfl⟩) (fun r_7 u_5 H locs h_6 hP hD hS => ?_)
  have h_6 : r_7 = (gs_copy (xs 1) (xs 2)) := h_6
  have hP : va_P D gx_cl [] H := hP
  have hD : va_D A [] := hD
  refine lv_icmp_eq (tgt := 1806) hx hb dL_law_410 (by decide) (fun c_9 => ?_) (fun c_9 => absurd (h_2.trans h_6.symm) c_9)
  exact lc_next C0 hS (Nat.le_of_ble_eq_true rfl) (Nat.le_of_ble_eq_true rfl) (lv_sub hl [0, 3] rfl)
set_option maxHeartbeats 4000000 in
set_option maxRecDepth 100000 in
theorem lc_copy2 {p : Program} {l : Launch} {e : Env} {s : State} {m : MethodId} {below : List Frame} {meth : Method} {c : Code} {b : Nat} {xs : Nat → Int32} {D : va_G} {k : Nat → ClassId} {A : Nat → Prop} (C0 : lc_C p s m meth c b xs D k A) (ad : Nat → Nat) (fs : Nat → Option Nat) (a : Nat) (el : Nat) (a2 : Nat) (el2 : Nat) (hm : Nat) (am : Nat → Nat) (hxhf : gx_b (xs 1) 0 7 = true → fs (xs 1).toNatClampNeg = some a) (hxhf2 : gx_b (xs 2) 0 7 = true → fs (xs 2).toNatClampNeg = some a2) (H : Heap) (locs : List Loc) (ls : Array Slot) (hP : va_P D gx_cl [((ad 0), .inr (4, [.ref (ad 1), .ref (ad 2), .ref (ad 3), .ref (ad 4), .ref (ad 5), .ref (ad 6), .ref (ad 7), .ref (ad 8), .ref (ad 9), .int 0])), ((ad 9), .inl (k 0, 5, .inl (fun _ => 0))), ((ad 5), .inl (k 2, 8, .inr (.inr (.inr (.inr fs))))), (a, .inr (1, [.ref el, .int 0, .int 0, .int (-1)])), (a2, .inr (1, [.ref el2, .int 0, .int 0, .int (-1)])), (hm, .inr (5, [.ref (am 1), .ref (am 2), .ref (am 3), .ref (am 4), .ref (am 5), .ref (am 6), .ref (am 7), .ref (am 8), .int 0, .ref (am 9), .int 0, .ref (am 10), .int 0, .ref (am 11), .ref (am 12), .int 0, .int 0, .int 1, .null, .null, .int 0, .int 0, .int 0, .long 0, .int 0, .ref (am 13), .int 0, .int 0, .int 0, .ref (am 14), .ref (am 15), .ref (am 16), .ref (am 17), .int 0, .ref (am 18), .ref (am 19), .ref (am 20)])), ((am 9), .inl (k 0, 8, .inl (fun _ => 0))), ((am 1), .inl (k 0, 8, .inl (fun _ => 0)))] H) (hD : va_D A [((ad 0), .inr (4, [.ref (ad 1), .ref (ad 2), .ref (ad 3), .ref (ad 4), .ref (ad 5), .ref (ad 6), .ref (ad 7), .ref (ad 8), .ref (ad 9), .int 0])), ((ad 9), .inl (k 0, 5, .inl (fun _ => 0))), ((ad 5), .inl (k 2, 8, .inr (.inr (.inr (.inr fs))))), (a, .inr (1, [.ref el, .int 0, .int 0, .int (-1)])), (a2, .inr (1, [.ref el2, .int 0, .int 0, .int (-1)])), (hm, .inr (5, [.ref (am 1), .ref (am 2), .ref (am 3), .ref (am 4), .ref (am 5), .ref (am 6), .ref (am 7), .ref (am 8), .int 0, .ref (am 9), .int 0, .ref (am 10), .int 0, .ref (am 11), .ref (am 12), .int 0, .int 0, .int 1, .null, .null, .int 0, .int 0, .int 0, .long 0, .int 0, .ref (am 13), .int 0, .int 0, .int 0, .ref (am 14), .ref (am 15), .ref (am 16), .ref (am 17), .int 0, .ref (am 18), .ref (am 19), .ref (am 20)])), ((am 9), .inl (k 0, 8, .inl (fun _ => 0))), ((am 1), .inl (k 0, 8, .inl (fun _ => 0)))]) (hS : va_S A s.heap H locs) (hl : lv_has ls 4 [(3, .int 0), (2, .ref hm), (1, .ref (ad 0)), (0, .ref b)]) : W p l e room_1 s m #[Value.ref b] below meth c H locs 1140 19699 (lw_Z below #[Value.ref b] s) (F0 m 352 ls []) := by
  obtain ⟨C, hK, hX, hbl, hA, hA2, hbA⟩ := id C0
  obtain ⟨hx, hb, hr, hml, hown, hT, hlk, -⟩ := id C
  refine lv_aload_n hx hb dL_law_352 rfl (lv_at hl 2 rfl) ?_
  refine lv_aload_n hx hb dL_law_353 rfl (lv_at hl 3 rfl) ?_
  refine lv_iload_n hx hb dL_law_354 rfl (lv_at hl 0 rfl) ?_
  refine lv_iconst (v := 1) hx hb dL_law_355 (by decide) ?_
  refine lv_iadd hx hb dL_law_356 ?_
  refine gx_cst (v := 1) (by decide) ?_
  refine va_sld hx hb hX hbl hbA hS (gx_vin rfl) dL_law_357 ?_
  refine gx_cst (v := (xs 1)) rfl ?_
  refine lv_aload_n hx hb dL_law_358 rfl (lv_at hl 3 rfl) ?_
  refine lv_iload_n hx hb dL_law_359 rfl (lv_at hl 0 rfl) ?_
  refine lv_iconst (v := 2) hx hb dL_law_360 (by decide) ?_
  refine lv_iadd hx hb dL_law_361 ?_
  refine gx_cst (v := 2) (by decide) ?_
  refine va_sld hx hb hX hbl hbA hS (gx_vin rfl) dL_law_362 ?_
  refine gx_cst (v := (xs 2)) rfl ?_
  refine lv_aload_n hx hb dL_law_363 rfl (lv_at hl 3 rfl) ?_
  refine lv_iload_n hx hb dL_law_364 rfl (lv_at hl 0 rfl) ?_
  refine lv_iconst (v := 3) hx hb dL_law_365 (by decide) ?_
  refine lv_iadd hx hb dL_law_366 ?_
  refine gx_cst (v := 3) (by decide) ?_
  refine va_sld hx hb hX hbl hbA hS (gx_vin rfl) dL_law_367 ?_
  refine gx_cst (v := (xs 3)) rfl ?_
  refine lv_aload_n hx hb dL_law_368 rfl (lv_at hl 3 rfl) ?_
  refine lv_iload_n hx hb dL_law_369 rfl (lv_at hl 0 rfl) ?_
  refine lv_iconst (v := 4) hx hb dL_law_370 (by decide) ?_
  refine lv_iadd hx hb dL_law_371 ?_
  refine gx_cst (v := 4) (by decide) ?_
  refine va_sld hx hb hX hbl hbA hS (gx_vin rfl) dL_law_372 ?_
  refine gx_cst (v := (xs 4)) rfl ?_
  refine lv_aload_n hx hb dL_law_373 rfl (lv_at hl 3 rfl) ?_
  refine lv_iload_n hx hb dL_law_374 rfl (lv_at hl 0 rfl) ?_
  refine lv_iconst (v := 5) hx hb dL_law_375 (by decide) ?_
  refine lv_iadd hx hb dL_law_376 ?_
  refine gx_cst (v := 5) (by decide) ?_
  refine va_sld hx hb hX hbl hbA hS (gx_vin rfl) dL_law_377 ?_
  refine gx_cst (v := (xs 5)) rfl ?_
  refine gx_ei (wc := ([((ad 0), .inr (4, [.ref (ad 1), .ref (ad 2), .ref (ad 3), .ref (ad 4), .ref (ad 5), .ref (ad 6), .ref (ad 7), .ref (ad 8), .ref (ad 9), .int 0])), ((ad 9), .inl (k 0, 5, .inl (fun _ => 0))), ((ad 5), .inl (k 2, 8, .inr (.inr (.inr (.inr fs))))), (a, .inr (1, [.ref el, .int 0, .int 0, .int (-1)])), (a2, .inr (1, [.ref el2, .int 0, .int 0, .int (-1)]))] : va_W)) (wr := [(hm, .inr (5, [.ref (am 1), .ref (am 2), .ref (am 3), .ref (am 4), .ref (am 5), .ref (am 6), .ref (am 7), .ref (am 8), .int 0, .ref (am 9), .int 0, .ref (am 10), .int 0, .ref (am 11), .ref (am 12), .int 0, .int 0, .int 1, .null, .null, .int 0, .int 0, .int 0, .long 0, .int 0, .ref (am 13), .int 0, .int 0, .int 0, .ref (am 14), .ref (am 15), .ref (am 16), .ref (am 17), .int 0, .ref (am 18), .ref (am 19), .ref (am 20)])), ((am 9), .inl (k 0, 8, .inl (fun _ => 0))), ((am 1), .inl (k 0, 8, .inl (fun _ => 0)))]) (isC := [0, 1, 2, 3, 4]) (isR := [5, 6, 7]) hP hD hS hA rfl rfl (by decide) (by decide) (gx_runV (na := 5) (As := [.int (xs 1), .int (xs 2), .int (xs 3), .int (xs 4), .int (xs 5)]) (rest := []) (ci := 4) C hl.1 hK (gx_subP (wc := ([((ad 0), .inr (4, [.ref (ad 1), .ref (ad 2), .ref (ad 3), .ref (ad 4), .ref (ad 5), .ref (ad 6), .ref (ad 7), .ref (ad 8), .ref (ad 9), .int 0])), ((ad 9), .inl (k 0, 5, .inl (fun _ => 0))), ((ad 5), .inl (k 2, 8, .inr (.inr (.inr (.inr fs))))), (a, .inr (1, [.ref el, .int 0, .int 0, .int (-1)])), (a2, .inr (1, [.ref el2, .int 0, .int 0, .int (-1)]))] : va_W)) hP [0, 1, 2, 3, 4] rfl) ((hD.sub (ws' := ([((ad 0), .inr (4, [.ref (ad 1), .ref (ad 2), .ref (ad 3), .ref (ad 4), .ref (ad 5), .ref (ad 6), .ref (ad 7), .ref (ad 8), .ref (ad 9), .int 0])), ((ad 9), .inl (k 0, 5, .inl (fun _ => 0))), ((ad 5), .inl (k 2, 8, .inr (.inr (.inr (.inr fs))))), (a, .inr (1, [.ref el, .int 0, .int 0, .int (-1)])), (a2, .inr (1, [.ref el2, .int 0, .int 0, .int (-1)]))] : va_W)) [0, 1, 2, 3, 4] (by decide) rfl).weaken (fun _ _ _ _ => trivial)) (x_copy2 l D k ad fs a el a2 el2 (xs 1) (xs 2) (xs 3) (xs 4) (xs 5) hxhf hxhf2 _) gV_R_law_25 (by decide +kernel) rfl rfl ⟨Nat.le_of_ble_eq_true rfl, Nat.le_of_ble_eq_true rfl⟩ rfl rfl rfl rfl (Nat.le_of_ble_eq_true rfl) dL_law_378 ⟨Nat.le_of_ble_eq_true rfl, Nat.le_of_ble_eq_true rfl⟩) (fun r_3 u_1 H locs h_2 hP hD hS => ?_)
  have h_2 : r_3 = (gs_copy (xs 1) (xs 2)) := h_2
  have hP : va_P D gx_cl [(hm, .inr (5, [.ref (am 1), .ref (am 2), .ref (am 3), .ref (am 4), .ref (am 5), .ref (am 6), .ref (am 7), .ref (am 8), .int 0, .ref (am 9), .int 0, .ref (am 10), .int 0, .ref (am 11), .ref (am 12), .int 0, .int 0, .int 1, .null, .null, .int 0, .int 0, .int 0, .long 0, .int 0, .ref (am 13), .int 0, .int 0, .int 0, .ref (am 14), .ref (am 15), .ref (am 16), .ref (am 17), .int 0, .ref (am 18), .ref (am 19), .ref (am 20)])), ((am 9), .inl (k 0, 8, .inl (fun _ => 0))), ((am 1), .inl (k 0, 8, .inl (fun _ => 0)))] H := hP
  have hD : va_D A [(hm, .inr (5, [.ref (am 1), .ref (am 2), .ref (am 3), .ref (am 4), .ref (am 5), .ref (am 6), .ref (am 7), .ref (am 8), .int 0, .ref (am 9), .int 0, .ref (am 10), .int 0, .ref (am 11), .ref (am 12), .int 0, .int 0, .int 1, .null, .null, .int 0, .int 0, .int 0, .long 0, .int 0, .ref (am 13), .int 0, .int 0, .int 0, .ref (am 14), .ref (am 15), .ref (am 16), .ref (am 17), .int 0, .ref (am 18), .ref (am 19), .ref (am 20)])), ((am 9), .inl (k 0, 8, .inl (fun _ => 0))), ((am 1), .inl (k 0, 8, .inl (fun _ => 0)))] := hD
  refine lv_aload_n hx hb dL_law_381 rfl (lv_at hl 1 rfl) ?_
  refine lv_aload_n hx hb dL_law_382 rfl (lv_at hl 3 rfl) ?_
  refine lv_iload_n hx hb dL_law_383 rfl (lv_at hl 0 rfl) ?_
  refine lv_iconst (v := 1) hx hb dL_law_384 (by decide) ?_
  refine lv_iadd hx hb dL_law_385 ?_
  refine gx_cst (v := 1) (by decide) ?_
  refine va_sld hx hb hX hbl hbA hS (gx_vin rfl) dL_law_386 ?_
  refine gx_cst (v := (xs 1)) rfl ?_
  refine lv_aload_n hx hb dL_law_387 rfl (lv_at hl 3 rfl) ?_
  refine lv_iload_n hx hb dL_law_388 rfl (lv_at hl 0 rfl) ?_
  refine lv_iconst (v := 2) hx hb dL_law_389 (by decide) ?_
  refine lv_iadd hx hb dL_law_390 ?_
  refine gx_cst (v := 2) (by decide) ?_
  refine va_sld hx hb hX hbl hbA hS (gx_vin rfl) dL_law_391 ?_
  refine gx_cst (v := (xs 2)) rfl ?_
  refine lv_aload_n hx hb dL_law_392 rfl (lv_at hl 3 rfl) ?_
  refine lv_iload_n hx hb dL_law_393 rfl (lv_at hl 0 rfl) ?_
  refine lv_iconst (v := 3) hx hb dL_law_394 (by decide) ?_
  refine lv_iadd hx hb dL_law_395 ?_
  refine gx_cst (v := 3) (by decide) ?_
  refine va_sld hx hb hX hbl hbA hS (gx_vin rfl) dL_law_396 ?_
  refine gx_cst (v := (xs 3)) rfl ?_
  refine lv_aload_n hx hb dL_law_397 rfl (lv_at hl 3 rfl) ?_
  refine lv_iload_n hx hb dL_law_398 rfl (lv_at hl 0 rfl) ?_
  refine lv_iconst (v := 4) hx hb dL_law_399 (by decide) ?_
  refine lv_iadd hx hb dL_law_400 ?_
  refine gx_cst (v := 4) (by decide) ?_
  refine va_sld hx hb hX hbl hbA hS (gx_vin rfl) dL_law_401 ?_
  refine gx_cst (v := (xs 4)) rfl ?_
  refine lv_aload_n hx hb dL_law_402 rfl (lv_at hl 3 rfl) ?_
  refine lv_iload_n hx hb dL_law_403 rfl (lv_at hl 0 rfl) ?_
  refine lv_iconst (v := 5) hx hb dL_law_404 (by decide) ?_
  refine lv_iadd hx hb dL_law_405 ?_
  refine gx_cst (v := 5) (by decide) ?_
  refine va_sld hx hb hX hbl hbA hS (gx_vin rfl) dL_law_406 ?_
  refine gx_cst (v := (xs 5)) rfl ?_
  refine gx_ei (wc := ([(hm, .inr (5, [.ref (am 1), .ref (am 2), .ref (am 3), .ref (am 4), .ref (am 5), .ref (am 6), .ref (am 7), .ref (am 8), .int 0, .ref (am 9), .int 0, .ref (am 10), .int 0, .ref (am 11), .ref (am 12), .int 0, .int 0, .int 1, .null, .null, .int 0, .int 0, .int 0, .long 0, .int 0, .ref (am 13), .int 0, .int 0, .int 0, .ref (am 14), .ref (am 15), .ref (am 16), .ref (am 17), .int 0, .ref (am 18), .ref (am 19), .ref (am 20)])), ((am 9), .inl (k 0, 8, .inl (fun _ => 0))), ((am 1), .inl (k 0, 8, .inl (fun _ => 0)))] : va_W)) (wr := []) (isC := [0, 1, 2]) (isR := []) hP hD hS hA rfl rfl (by decide) (by decide) (gx_runV (na := 5) (As := [.int (xs 1), .int (xs 2), .int (xs 3), .int (xs 4), .int (xs 5)]) (rest := [.int r_3]) (ci := 5) C hl.1 hK (gx_subP (wc := ([(hm, .inr (5, [.ref (am 1), .ref (am 2), .ref (am 3), .ref (am 4), .ref (am 5), .ref (am 6), .ref (am 7), .ref (am 8), .int 0, .ref (am 9), .int 0, .ref (am 10), .int 0, .ref (am 11), .ref (am 12), .int 0, .int 0, .int 1, .null, .null, .int 0, .int 0, .int 0, .long 0, .int 0, .ref (am 13), .int 0, .int 0, .int 0, .ref (am 14), .ref (am 15), .ref (am 16), .ref (am 17), .int 0, .ref (am 18), .ref (am 19), .ref (am 20)])), ((am 9), .inl (k 0, 8, .inl (fun _ => 0))), ((am 1), .inl (k 0, 8, .inl (fun _ => 0)))] : va_W)) hP [0, 1, 2] rfl) ((hD.sub (ws' := ([(hm, .inr (5, [.ref (am 1), .ref (am 2), .ref (am 3), .ref (am 4), .ref (am 5), .ref (am 6), .ref (am 7), .ref (am 8), .int 0, .ref (am 9), .int 0, .ref (am 10), .int 0, .ref (am 11), .ref (am 12), .int 0, .int 0, .int 1, .null, .null, .int 0, .int 0, .int 0, .long 0, .int 0, .ref (am 13), .int 0, .int 0, .int 0, .ref (am 14), .ref (am 15), .ref (am 16), .ref (am 17), .int 0, .ref (am 18), .ref (am 19), .ref (am 20)])), ((am 9), .inl (k 0, 8, .inl (fun _ => 0))), ((am 1), .inl (k 0, 8, .inl (fun _ => 0)))] : va_W)) [0, 1, 2] (by decide) rfl).weaken (fun _ _ _ _ => trivial)) (m_copy_pub l D k hm am (xs 1) (xs 2) (xs 3) (xs 4) (xs 5) _) gV_R_law_29 (by decide +kernel) rfl rfl ⟨Nat.le_of_ble_eq_true rfl, Nat.le_of_ble_eq_true rfl⟩ rfl rfl rfl rfl (Nat.le_of_ble_eq_true rfl) dL_law_407 ⟨Nat.le_of_ble_eq_true rfl, Nat.le_of_ble_eq_true rfl⟩) (fun r_7 u_5 H locs h_6 hP hD hS => ?_)
  have h_6 : r_7 = (gs_copy (xs 1) (xs 2)) := h_6
  have hP : va_P D gx_cl [] H := hP
  have hD : va_D A [] := hD
  refine lv_icmp_eq (tgt := 1806) hx hb dL_law_410 (by decide) (fun c_9 => ?_) (fun c_9 => absurd (h_2.trans h_6.symm) c_9)
  exact lc_next C0 hS (Nat.le_of_ble_eq_true rfl) (Nat.le_of_ble_eq_true rfl) (lv_sub hl [0, 3] rfl)
set_option maxHeartbeats 4000000 in
set_option maxRecDepth 100000 in
theorem lc_element {p : Program} {l : Launch} {e : Env} {s : State} {m : MethodId} {below : List Frame} {meth : Method} {c : Code} {b : Nat} {xs : Nat → Int32} {D : va_G} {k : Nat → ClassId} {A : Nat → Prop} (C0 : lc_C p s m meth c b xs D k A) (ad : Nat → Nat) (fs : Nat → Option Nat) (a : Nat) (el : Nat) (hm : Nat) (am : Nat → Nat) (hxhf : gx_b (xs 1) 0 7 = true → fs (xs 1).toNatClampNeg = some a) (H : Heap) (locs : List Loc) (ls : Array Slot) (hP : va_P D gx_cl [((ad 0), .inr (4, [.ref (ad 1), .ref (ad 2), .ref (ad 3), .ref (ad 4), .ref (ad 5), .ref (ad 6), .ref (ad 7), .ref (ad 8), .ref (ad 9), .int 0])), ((ad 5), .inl (k 2, 8, .inr (.inr (.inr (.inr fs))))), (a, .inr (1, [.ref el, .int 0, .int 0, .int (-1)])), (hm, .inr (5, [.ref (am 1), .ref (am 2), .ref (am 3), .ref (am 4), .ref (am 5), .ref (am 6), .ref (am 7), .ref (am 8), .int 0, .ref (am 9), .int 0, .ref (am 10), .int 0, .ref (am 11), .ref (am 12), .int 0, .int 0, .int 1, .null, .null, .int 0, .int 0, .int 0, .long 0, .int 0, .ref (am 13), .int 0, .int 0, .int 0, .ref (am 14), .ref (am 15), .ref (am 16), .ref (am 17), .int 0, .ref (am 18), .ref (am 19), .ref (am 20)])), ((am 1), .inl (k 0, 8, .inl (fun _ => 0)))] H) (hD : va_D A [((ad 0), .inr (4, [.ref (ad 1), .ref (ad 2), .ref (ad 3), .ref (ad 4), .ref (ad 5), .ref (ad 6), .ref (ad 7), .ref (ad 8), .ref (ad 9), .int 0])), ((ad 5), .inl (k 2, 8, .inr (.inr (.inr (.inr fs))))), (a, .inr (1, [.ref el, .int 0, .int 0, .int (-1)])), (hm, .inr (5, [.ref (am 1), .ref (am 2), .ref (am 3), .ref (am 4), .ref (am 5), .ref (am 6), .ref (am 7), .ref (am 8), .int 0, .ref (am 9), .int 0, .ref (am 10), .int 0, .ref (am 11), .ref (am 12), .int 0, .int 0, .int 1, .null, .null, .int 0, .int 0, .int 0, .long 0, .int 0, .ref (am 13), .int 0, .int 0, .int 0, .ref (am 14), .ref (am 15), .ref (am 16), .ref (am 17), .int 0, .ref (am 18), .ref (am 19), .ref (am 20)])), ((am 1), .inl (k 0, 8, .inl (fun _ => 0)))]) (hS : va_S A s.heap H locs) (hl : lv_has ls 4 [(3, .int 0), (2, .ref hm), (1, .ref (ad 0)), (0, .ref b)]) : W p l e room_1 s m #[Value.ref b] below meth c H locs 1140 19699 (lw_Z below #[Value.ref b] s) (F0 m 415 ls []) := by
  obtain ⟨C, hK, hX, hbl, hA, hA2, hbA⟩ := id C0
  obtain ⟨hx, hb, hr, hml, hown, hT, hlk, -⟩ := id C
  refine lv_aload_n hx hb dL_law_415 rfl (lv_at hl 2 rfl) ?_
  refine lv_aload_n hx hb dL_law_416 rfl (lv_at hl 3 rfl) ?_
  refine lv_iload_n hx hb dL_law_417 rfl (lv_at hl 0 rfl) ?_
  refine lv_iconst (v := 1) hx hb dL_law_418 (by decide) ?_
  refine lv_iadd hx hb dL_law_419 ?_
  refine gx_cst (v := 1) (by decide) ?_
  refine va_sld hx hb hX hbl hbA hS (gx_vin rfl) dL_law_420 ?_
  refine gx_cst (v := (xs 1)) rfl ?_
  refine lv_aload_n hx hb dL_law_421 rfl (lv_at hl 3 rfl) ?_
  refine lv_iload_n hx hb dL_law_422 rfl (lv_at hl 0 rfl) ?_
  refine lv_iconst (v := 2) hx hb dL_law_423 (by decide) ?_
  refine lv_iadd hx hb dL_law_424 ?_
  refine gx_cst (v := 2) (by decide) ?_
  refine va_sld hx hb hX hbl hbA hS (gx_vin rfl) dL_law_425 ?_
  refine gx_cst (v := (xs 2)) rfl ?_
  refine gx_pl hP hS (gx_runV (na := 2) (As := [.int (xs 1), .int (xs 2)]) (rest := []) (ci := 4) C hl.1 hK (gx_subP (wc := ([((ad 0), .inr (4, [.ref (ad 1), .ref (ad 2), .ref (ad 3), .ref (ad 4), .ref (ad 5), .ref (ad 6), .ref (ad 7), .ref (ad 8), .ref (ad 9), .int 0])), ((ad 5), .inl (k 2, 8, .inr (.inr (.inr (.inr fs))))), (a, .inr (1, [.ref el, .int 0, .int 0, .int (-1)]))] : va_W)) hP [0, 1, 2] rfl) ((hD.sub (ws' := ([((ad 0), .inr (4, [.ref (ad 1), .ref (ad 2), .ref (ad 3), .ref (ad 4), .ref (ad 5), .ref (ad 6), .ref (ad 7), .ref (ad 8), .ref (ad 9), .int 0])), ((ad 5), .inl (k 2, 8, .inr (.inr (.inr (.inr fs))))), (a, .inr (1, [.ref el, .int 0, .int 0, .int (-1)]))] : va_W)) [0, 1, 2] (by decide) rfl).weaken (fun _ _ _ _ => trivial)) (x_element l D k ad fs a el (xs 1) (xs 2) hxhf _) gV_R_law_30 (by decide +kernel) rfl rfl ⟨Nat.le_of_ble_eq_true rfl, Nat.le_of_ble_eq_true rfl⟩ rfl rfl rfl rfl (Nat.le_of_ble_eq_true rfl) dL_law_426 ⟨Nat.le_of_ble_eq_true rfl, Nat.le_of_ble_eq_true rfl⟩) (fun r_2 H locs c_1 hP hS => ?_)
  have c_1 : r_2 = 0 := c_1
  refine lv_aload_n hx hb dL_law_429 rfl (lv_at hl 1 rfl) ?_
  refine lv_aload_n hx hb dL_law_430 rfl (lv_at hl 3 rfl) ?_
  refine lv_iload_n hx hb dL_law_431 rfl (lv_at hl 0 rfl) ?_
  refine lv_iconst (v := 1) hx hb dL_law_432 (by decide) ?_
  refine lv_iadd hx hb dL_law_433 ?_
  refine gx_cst (v := 1) (by decide) ?_
  refine va_sld hx hb hX hbl hbA hS (gx_vin rfl) dL_law_434 ?_
  refine gx_cst (v := (xs 1)) rfl ?_
  refine lv_aload_n hx hb dL_law_435 rfl (lv_at hl 3 rfl) ?_
  refine lv_iload_n hx hb dL_law_436 rfl (lv_at hl 0 rfl) ?_
  refine lv_iconst (v := 2) hx hb dL_law_437 (by decide) ?_
  refine lv_iadd hx hb dL_law_438 ?_
  refine gx_cst (v := 2) (by decide) ?_
  refine va_sld hx hb hX hbl hbA hS (gx_vin rfl) dL_law_439 ?_
  refine gx_cst (v := (xs 2)) rfl ?_
  refine gx_pl hP hS (gx_runV (na := 2) (As := [.int (xs 1), .int (xs 2)]) (rest := [.long r_2]) (ci := 5) C hl.1 hK (gx_subP (wc := ([(hm, .inr (5, [.ref (am 1), .ref (am 2), .ref (am 3), .ref (am 4), .ref (am 5), .ref (am 6), .ref (am 7), .ref (am 8), .int 0, .ref (am 9), .int 0, .ref (am 10), .int 0, .ref (am 11), .ref (am 12), .int 0, .int 0, .int 1, .null, .null, .int 0, .int 0, .int 0, .long 0, .int 0, .ref (am 13), .int 0, .int 0, .int 0, .ref (am 14), .ref (am 15), .ref (am 16), .ref (am 17), .int 0, .ref (am 18), .ref (am 19), .ref (am 20)])), ((am 1), .inl (k 0, 8, .inl (fun _ => 0)))] : va_W)) hP [3, 4] rfl) ((hD.sub (ws' := ([(hm, .inr (5, [.ref (am 1), .ref (am 2), .ref (am 3), .ref (am 4), .ref (am 5), .ref (am 6), .ref (am 7), .ref (am 8), .int 0, .ref (am 9), .int 0, .ref (am 10), .int 0, .ref (am 11), .ref (am 12), .int 0, .int 0, .int 1, .null, .null, .int 0, .int 0, .int 0, .long 0, .int 0, .ref (am 13), .int 0, .int 0, .int 0, .ref (am 14), .ref (am 15), .ref (am 16), .ref (am 17), .int 0, .ref (am 18), .ref (am 19), .ref (am 20)])), ((am 1), .inl (k 0, 8, .inl (fun _ => 0)))] : va_W)) [3, 4] (by decide) rfl).weaken (fun _ _ _ _ => trivial)) (m_element_pub l D k hm am (xs 1) (xs 2) _) gV_R_law_34 (by decide +kernel) rfl rfl ⟨Nat.le_of_ble_eq_true rfl, Nat.le_of_ble_eq_true rfl⟩ rfl rfl rfl rfl (Nat.le_of_ble_eq_true rfl) dL_law_440 ⟨Nat.le_of_ble_eq_true rfl, Nat.le_of_ble_eq_true rfl⟩) (fun r_4 H locs c_3 hP hS => ?_)
  have c_3 : r_4 = 0 := c_3
  refine W.lcmp hx hb dL_law_443 ?_
  refine lv_if_eq (tgt := 1806) hx hb dL_law_444 (by decide) (fun c_5 => ?_) (fun c_5 => absurd (by rw [c_1, c_3]; decide) c_5)
  exact lc_next C0 hS (Nat.le_of_ble_eq_true rfl) (Nat.le_of_ble_eq_true rfl) (lv_sub hl [0, 3] rfl)
set_option maxHeartbeats 4000000 in
set_option maxRecDepth 100000 in
theorem lc_holds {p : Program} {l : Launch} {e : Env} {s : State} {m : MethodId} {below : List Frame} {meth : Method} {c : Code} {b : Nat} {xs : Nat → Int32} {D : va_G} {k : Nat → ClassId} {A : Nat → Prop} (C0 : lc_C p s m meth c b xs D k A) (ad : Nat → Nat) (fs : Nat → Option Nat) (a : Nat) (el : Nat) (hm : Nat) (am : Nat → Nat) (hxhf : gx_b (xs 1) 0 7 = true → fs (xs 1).toNatClampNeg = some a) (H : Heap) (locs : List Loc) (ls : Array Slot) (hP : va_P D gx_cl [((ad 0), .inr (4, [.ref (ad 1), .ref (ad 2), .ref (ad 3), .ref (ad 4), .ref (ad 5), .ref (ad 6), .ref (ad 7), .ref (ad 8), .ref (ad 9), .int 0])), ((ad 5), .inl (k 2, 8, .inr (.inr (.inr (.inr fs))))), (a, .inr (1, [.ref el, .int 0, .int 0, .int (-1)])), (hm, .inr (5, [.ref (am 1), .ref (am 2), .ref (am 3), .ref (am 4), .ref (am 5), .ref (am 6), .ref (am 7), .ref (am 8), .int 0, .ref (am 9), .int 0, .ref (am 10), .int 0, .ref (am 11), .ref (am 12), .int 0, .int 0, .int 1, .null, .null, .int 0, .int 0, .int 0, .long 0, .int 0, .ref (am 13), .int 0, .int 0, .int 0, .ref (am 14), .ref (am 15), .ref (am 16), .ref (am 17), .int 0, .ref (am 18), .ref (am 19), .ref (am 20)])), ((am 1), .inl (k 0, 8, .inl (fun _ => 0)))] H) (hD : va_D A [((ad 0), .inr (4, [.ref (ad 1), .ref (ad 2), .ref (ad 3), .ref (ad 4), .ref (ad 5), .ref (ad 6), .ref (ad 7), .ref (ad 8), .ref (ad 9), .int 0])), ((ad 5), .inl (k 2, 8, .inr (.inr (.inr (.inr fs))))), (a, .inr (1, [.ref el, .int 0, .int 0, .int (-1)])), (hm, .inr (5, [.ref (am 1), .ref (am 2), .ref (am 3), .ref (am 4), .ref (am 5), .ref (am 6), .ref (am 7), .ref (am 8), .int 0, .ref (am 9), .int 0, .ref (am 10), .int 0, .ref (am 11), .ref (am 12), .int 0, .int 0, .int 1, .null, .null, .int 0, .int 0, .int 0, .long 0, .int 0, .ref (am 13), .int 0, .int 0, .int 0, .ref (am 14), .ref (am 15), .ref (am 16), .ref (am 17), .int 0, .ref (am 18), .ref (am 19), .ref (am 20)])), ((am 1), .inl (k 0, 8, .inl (fun _ => 0)))]) (hS : va_S A s.heap H locs) (hl : lv_has ls 4 [(3, .int 0), (2, .ref hm), (1, .ref (ad 0)), (0, .ref b)]) : W p l e room_1 s m #[Value.ref b] below meth c H locs 1140 19699 (lw_Z below #[Value.ref b] s) (F0 m 449 ls []) := by
  obtain ⟨C, hK, hX, hbl, hA, hA2, hbA⟩ := id C0
  obtain ⟨hx, hb, hr, hml, hown, hT, hlk, -⟩ := id C
  refine lv_aload_n hx hb dL_law_449 rfl (lv_at hl 2 rfl) ?_
  refine lv_aload_n hx hb dL_law_450 rfl (lv_at hl 3 rfl) ?_
  refine lv_iload_n hx hb dL_law_451 rfl (lv_at hl 0 rfl) ?_
  refine lv_iconst (v := 1) hx hb dL_law_452 (by decide) ?_
  refine lv_iadd hx hb dL_law_453 ?_
  refine gx_cst (v := 1) (by decide) ?_
  refine va_sld hx hb hX hbl hbA hS (gx_vin rfl) dL_law_454 ?_
  refine gx_cst (v := (xs 1)) rfl ?_
  refine gx_pi hP hS (gx_runV (na := 1) (As := [.int (xs 1)]) (rest := []) (ci := 4) C hl.1 hK (gx_subP (wc := ([((ad 0), .inr (4, [.ref (ad 1), .ref (ad 2), .ref (ad 3), .ref (ad 4), .ref (ad 5), .ref (ad 6), .ref (ad 7), .ref (ad 8), .ref (ad 9), .int 0])), ((ad 5), .inl (k 2, 8, .inr (.inr (.inr (.inr fs))))), (a, .inr (1, [.ref el, .int 0, .int 0, .int (-1)]))] : va_W)) hP [0, 1, 2] rfl) ((hD.sub (ws' := ([((ad 0), .inr (4, [.ref (ad 1), .ref (ad 2), .ref (ad 3), .ref (ad 4), .ref (ad 5), .ref (ad 6), .ref (ad 7), .ref (ad 8), .ref (ad 9), .int 0])), ((ad 5), .inl (k 2, 8, .inr (.inr (.inr (.inr fs))))), (a, .inr (1, [.ref el, .int 0, .int 0, .int (-1)]))] : va_W)) [0, 1, 2] (by decide) rfl).weaken (fun _ _ _ _ => trivial)) (x_holds l D k ad fs a el (xs 1) hxhf _) gV_R_law_35 (by decide +kernel) rfl rfl ⟨Nat.le_of_ble_eq_true rfl, Nat.le_of_ble_eq_true rfl⟩ rfl rfl rfl rfl (Nat.le_of_ble_eq_true rfl) dL_law_455 ⟨Nat.le_of_ble_eq_true rfl, Nat.le_of_ble_eq_true rfl⟩) (fun r_2 H locs c_1 hP hS => ?_)
  have c_1 : r_2 = -1 := c_1
  refine lv_aload_n hx hb dL_law_458 rfl (lv_at hl 1 rfl) ?_
  refine lv_aload_n hx hb dL_law_459 rfl (lv_at hl 3 rfl) ?_
  refine lv_iload_n hx hb dL_law_460 rfl (lv_at hl 0 rfl) ?_
  refine lv_iconst (v := 1) hx hb dL_law_461 (by decide) ?_
  refine lv_iadd hx hb dL_law_462 ?_
  refine gx_cst (v := 1) (by decide) ?_
  refine va_sld hx hb hX hbl hbA hS (gx_vin rfl) dL_law_463 ?_
  refine gx_cst (v := (xs 1)) rfl ?_
  refine gx_pi hP hS (gx_runV (na := 1) (As := [.int (xs 1)]) (rest := [.int r_2]) (ci := 5) C hl.1 hK (gx_subP (wc := ([(hm, .inr (5, [.ref (am 1), .ref (am 2), .ref (am 3), .ref (am 4), .ref (am 5), .ref (am 6), .ref (am 7), .ref (am 8), .int 0, .ref (am 9), .int 0, .ref (am 10), .int 0, .ref (am 11), .ref (am 12), .int 0, .int 0, .int 1, .null, .null, .int 0, .int 0, .int 0, .long 0, .int 0, .ref (am 13), .int 0, .int 0, .int 0, .ref (am 14), .ref (am 15), .ref (am 16), .ref (am 17), .int 0, .ref (am 18), .ref (am 19), .ref (am 20)])), ((am 1), .inl (k 0, 8, .inl (fun _ => 0)))] : va_W)) hP [3, 4] rfl) ((hD.sub (ws' := ([(hm, .inr (5, [.ref (am 1), .ref (am 2), .ref (am 3), .ref (am 4), .ref (am 5), .ref (am 6), .ref (am 7), .ref (am 8), .int 0, .ref (am 9), .int 0, .ref (am 10), .int 0, .ref (am 11), .ref (am 12), .int 0, .int 0, .int 1, .null, .null, .int 0, .int 0, .int 0, .long 0, .int 0, .ref (am 13), .int 0, .int 0, .int 0, .ref (am 14), .ref (am 15), .ref (am 16), .ref (am 17), .int 0, .ref (am 18), .ref (am 19), .ref (am 20)])), ((am 1), .inl (k 0, 8, .inl (fun _ => 0)))] : va_W)) [3, 4] (by decide) rfl).weaken (fun _ _ _ _ => trivial)) (m_holds_pub l D k hm am (xs 1) _) gV_R_law_39 (by decide +kernel) rfl rfl ⟨Nat.le_of_ble_eq_true rfl, Nat.le_of_ble_eq_true rfl⟩ rfl rfl rfl rfl (Nat.le_of_ble_eq_true rfl) dL_law_464 ⟨Nat.le_of_ble_eq_true rfl, Nat.le_of_ble_eq_true rfl⟩) (fun r_4 H locs c_3 hP hS => ?_)
  have c_3 : r_4 = -1 := c_3
  refine lv_icmp_eq (tgt := 1806) hx hb dL_law_467 (by decide) (fun c_5 => ?_) (fun c_5 => absurd (c_1.trans c_3.symm) c_5)
  exact lc_next C0 hS (Nat.le_of_ble_eq_true rfl) (Nat.le_of_ble_eq_true rfl) (lv_sub hl [0, 3] rfl)
set_option maxHeartbeats 4000000 in
set_option maxRecDepth 100000 in
theorem lc_rule {p : Program} {l : Launch} {e : Env} {s : State} {m : MethodId} {below : List Frame} {meth : Method} {c : Code} {b : Nat} {xs : Nat → Int32} {D : va_G} {k : Nat → ClassId} {A : Nat → Prop} (C0 : lc_C p s m meth c b xs D k A) (ad : Nat → Nat) (fs : Nat → Option Nat) (a : Nat) (el : Nat) (hm : Nat) (am : Nat → Nat) (hxhf : gx_b (xs 1) 0 7 = true → fs (xs 1).toNatClampNeg = some a) (H : Heap) (locs : List Loc) (ls : Array Slot) (hP : va_P D gx_cl [((ad 0), .inr (4, [.ref (ad 1), .ref (ad 2), .ref (ad 3), .ref (ad 4), .ref (ad 5), .ref (ad 6), .ref (ad 7), .ref (ad 8), .ref (ad 9), .int 0])), ((ad 9), .inl (k 0, 5, .inl (fun _ => 0))), ((ad 5), .inl (k 2, 8, .inr (.inr (.inr (.inr fs))))), (a, .inr (1, [.ref el, .int 0, .int 0, .int (-1)])), (hm, .inr (5, [.ref (am 1), .ref (am 2), .ref (am 3), .ref (am 4), .ref (am 5), .ref (am 6), .ref (am 7), .ref (am 8), .int 0, .ref (am 9), .int 0, .ref (am 10), .int 0, .ref (am 11), .ref (am 12), .int 0, .int 0, .int 1, .null, .null, .int 0, .int 0, .int 0, .long 0, .int 0, .ref (am 13), .int 0, .int 0, .int 0, .ref (am 14), .ref (am 15), .ref (am 16), .ref (am 17), .int 0, .ref (am 18), .ref (am 19), .ref (am 20)])), ((am 9), .inl (k 0, 8, .inl (fun _ => 0))), ((am 1), .inl (k 0, 8, .inl (fun _ => 0))), ((am 6), .inl (k 0, 8, .inl (fun _ => 0))), ((am 7), .inl (k 0, 8, .inl (fun _ => 0)))] H) (hD : va_D A [((ad 0), .inr (4, [.ref (ad 1), .ref (ad 2), .ref (ad 3), .ref (ad 4), .ref (ad 5), .ref (ad 6), .ref (ad 7), .ref (ad 8), .ref (ad 9), .int 0])), ((ad 9), .inl (k 0, 5, .inl (fun _ => 0))), ((ad 5), .inl (k 2, 8, .inr (.inr (.inr (.inr fs))))), (a, .inr (1, [.ref el, .int 0, .int 0, .int (-1)])), (hm, .inr (5, [.ref (am 1), .ref (am 2), .ref (am 3), .ref (am 4), .ref (am 5), .ref (am 6), .ref (am 7), .ref (am 8), .int 0, .ref (am 9), .int 0, .ref (am 10), .int 0, .ref (am 11), .ref (am 12), .int 0, .int 0, .int 1, .null, .null, .int 0, .int 0, .int 0, .long 0, .int 0, .ref (am 13), .int 0, .int 0, .int 0, .ref (am 14), .ref (am 15), .ref (am 16), .ref (am 17), .int 0, .ref (am 18), .ref (am 19), .ref (am 20)])), ((am 9), .inl (k 0, 8, .inl (fun _ => 0))), ((am 1), .inl (k 0, 8, .inl (fun _ => 0))), ((am 6), .inl (k 0, 8, .inl (fun _ => 0))), ((am 7), .inl (k 0, 8, .inl (fun _ => 0)))]) (hS : va_S A s.heap H locs) (hl : lv_has ls 4 [(3, .int 0), (2, .ref hm), (1, .ref (ad 0)), (0, .ref b)]) : W p l e room_1 s m #[Value.ref b] below meth c H locs 1140 19699 (lw_Z below #[Value.ref b] s) (F0 m 472 ls []) := by
  obtain ⟨C, hK, hX, hbl, hA, hA2, hbA⟩ := id C0
  obtain ⟨hx, hb, hr, hml, hown, hT, hlk, -⟩ := id C
  refine lv_aload_n hx hb dL_law_472 rfl (lv_at hl 2 rfl) ?_
  refine lv_aload_n hx hb dL_law_473 rfl (lv_at hl 3 rfl) ?_
  refine lv_iload_n hx hb dL_law_474 rfl (lv_at hl 0 rfl) ?_
  refine lv_iconst (v := 1) hx hb dL_law_475 (by decide) ?_
  refine lv_iadd hx hb dL_law_476 ?_
  refine gx_cst (v := 1) (by decide) ?_
  refine va_sld hx hb hX hbl hbA hS (gx_vin rfl) dL_law_477 ?_
  refine gx_cst (v := (xs 1)) rfl ?_
  refine lv_aload_n hx hb dL_law_478 rfl (lv_at hl 3 rfl) ?_
  refine lv_iload_n hx hb dL_law_479 rfl (lv_at hl 0 rfl) ?_
  refine lv_iconst (v := 2) hx hb dL_law_480 (by decide) ?_
  refine lv_iadd hx hb dL_law_481 ?_
  refine gx_cst (v := 2) (by decide) ?_
  refine va_sld hx hb hX hbl hbA hS (gx_vin rfl) dL_law_482 ?_
  refine gx_cst (v := (xs 2)) rfl ?_
  refine lv_aload_n hx hb dL_law_483 rfl (lv_at hl 3 rfl) ?_
  refine lv_iload_n hx hb dL_law_484 rfl (lv_at hl 0 rfl) ?_
  refine lv_iconst (v := 3) hx hb dL_law_485 (by decide) ?_
  refine lv_iadd hx hb dL_law_486 ?_
  refine gx_cst (v := 3) (by decide) ?_
  refine va_sld hx hb hX hbl hbA hS (gx_vin rfl) dL_law_487 ?_
  refine gx_cst (v := (xs 3)) rfl ?_
  refine gx_ei (wc := ([((ad 0), .inr (4, [.ref (ad 1), .ref (ad 2), .ref (ad 3), .ref (ad 4), .ref (ad 5), .ref (ad 6), .ref (ad 7), .ref (ad 8), .ref (ad 9), .int 0])), ((ad 9), .inl (k 0, 5, .inl (fun _ => 0))), ((ad 5), .inl (k 2, 8, .inr (.inr (.inr (.inr fs))))), (a, .inr (1, [.ref el, .int 0, .int 0, .int (-1)]))] : va_W)) (wr := [(hm, .inr (5, [.ref (am 1), .ref (am 2), .ref (am 3), .ref (am 4), .ref (am 5), .ref (am 6), .ref (am 7), .ref (am 8), .int 0, .ref (am 9), .int 0, .ref (am 10), .int 0, .ref (am 11), .ref (am 12), .int 0, .int 0, .int 1, .null, .null, .int 0, .int 0, .int 0, .long 0, .int 0, .ref (am 13), .int 0, .int 0, .int 0, .ref (am 14), .ref (am 15), .ref (am 16), .ref (am 17), .int 0, .ref (am 18), .ref (am 19), .ref (am 20)])), ((am 9), .inl (k 0, 8, .inl (fun _ => 0))), ((am 1), .inl (k 0, 8, .inl (fun _ => 0))), ((am 6), .inl (k 0, 8, .inl (fun _ => 0))), ((am 7), .inl (k 0, 8, .inl (fun _ => 0)))]) (isC := [0, 1, 2, 3]) (isR := [4, 5, 6, 7, 8]) hP hD hS hA rfl rfl (by decide) (by decide) (gx_runV (na := 3) (As := [.int (xs 1), .int (xs 2), .int (xs 3)]) (rest := []) (ci := 4) C hl.1 hK (gx_subP (wc := ([((ad 0), .inr (4, [.ref (ad 1), .ref (ad 2), .ref (ad 3), .ref (ad 4), .ref (ad 5), .ref (ad 6), .ref (ad 7), .ref (ad 8), .ref (ad 9), .int 0])), ((ad 9), .inl (k 0, 5, .inl (fun _ => 0))), ((ad 5), .inl (k 2, 8, .inr (.inr (.inr (.inr fs))))), (a, .inr (1, [.ref el, .int 0, .int 0, .int (-1)]))] : va_W)) hP [0, 1, 2, 3] rfl) ((hD.sub (ws' := ([((ad 0), .inr (4, [.ref (ad 1), .ref (ad 2), .ref (ad 3), .ref (ad 4), .ref (ad 5), .ref (ad 6), .ref (ad 7), .ref (ad 8), .ref (ad 9), .int 0])), ((ad 9), .inl (k 0, 5, .inl (fun _ => 0))), ((ad 5), .inl (k 2, 8, .inr (.inr (.inr (.inr fs))))), (a, .inr (1, [.ref el, .int 0, .int 0, .int (-1)]))] : va_W)) [0, 1, 2, 3] (by decide) rfl).weaken (fun _ _ _ _ => trivial)) (x_rule l D k ad fs a el (xs 1) (xs 2) (xs 3) hxhf _) gV_R_law_40 (by decide +kernel) rfl rfl ⟨Nat.le_of_ble_eq_true rfl, Nat.le_of_ble_eq_true rfl⟩ rfl rfl rfl rfl (Nat.le_of_ble_eq_true rfl) dL_law_488 ⟨Nat.le_of_ble_eq_true rfl, Nat.le_of_ble_eq_true rfl⟩) (fun r_3 u_1 H locs h_2 hP hD hS => ?_)
  have h_2 : r_3 = (gs_rule (xs 1) (xs 2) (xs 3)) := h_2
  have hP : va_P D gx_cl [(hm, .inr (5, [.ref (am 1), .ref (am 2), .ref (am 3), .ref (am 4), .ref (am 5), .ref (am 6), .ref (am 7), .ref (am 8), .int 0, .ref (am 9), .int 0, .ref (am 10), .int 0, .ref (am 11), .ref (am 12), .int 0, .int 0, .int 1, .null, .null, .int 0, .int 0, .int 0, .long 0, .int 0, .ref (am 13), .int 0, .int 0, .int 0, .ref (am 14), .ref (am 15), .ref (am 16), .ref (am 17), .int 0, .ref (am 18), .ref (am 19), .ref (am 20)])), ((am 9), .inl (k 0, 8, .inl (fun _ => 0))), ((am 1), .inl (k 0, 8, .inl (fun _ => 0))), ((am 6), .inl (k 0, 8, .inl (fun _ => 0))), ((am 7), .inl (k 0, 8, .inl (fun _ => 0)))] H := hP
  have hD : va_D A [(hm, .inr (5, [.ref (am 1), .ref (am 2), .ref (am 3), .ref (am 4), .ref (am 5), .ref (am 6), .ref (am 7), .ref (am 8), .int 0, .ref (am 9), .int 0, .ref (am 10), .int 0, .ref (am 11), .ref (am 12), .int 0, .int 0, .int 1, .null, .null, .int 0, .int 0, .int 0, .long 0, .int 0, .ref (am 13), .int 0, .int 0, .int 0, .ref (am 14), .ref (am 15), .ref (am 16), .ref (am 17), .int 0, .ref (am 18), .ref (am 19), .ref (am 20)])), ((am 9), .inl (k 0, 8, .inl (fun _ => 0))), ((am 1), .inl (k 0, 8, .inl (fun _ => 0))), ((am 6), .inl (k 0, 8, .inl (fun _ => 0))), ((am 7), .inl (k 0, 8, .inl (fun _ => 0)))] := hD
  refine lv_aload_n hx hb dL_law_491 rfl (lv_at hl 1 rfl) ?_
  refine lv_aload_n hx hb dL_law_492 rfl (lv_at hl 3 rfl) ?_
  refine lv_iload_n hx hb dL_law_493 rfl (lv_at hl 0 rfl) ?_
  refine lv_iconst (v := 1) hx hb dL_law_494 (by decide) ?_
  refine lv_iadd hx hb dL_law_495 ?_
  refine gx_cst (v := 1) (by decide) ?_
  refine va_sld hx hb hX hbl hbA hS (gx_vin rfl) dL_law_496 ?_
  refine gx_cst (v := (xs 1)) rfl ?_
  refine lv_aload_n hx hb dL_law_497 rfl (lv_at hl 3 rfl) ?_
  refine lv_iload_n hx hb dL_law_498 rfl (lv_at hl 0 rfl) ?_
  refine lv_iconst (v := 2) hx hb dL_law_499 (by decide) ?_
  refine lv_iadd hx hb dL_law_500 ?_
  refine gx_cst (v := 2) (by decide) ?_
  refine va_sld hx hb hX hbl hbA hS (gx_vin rfl) dL_law_501 ?_
  refine gx_cst (v := (xs 2)) rfl ?_
  refine lv_aload_n hx hb dL_law_502 rfl (lv_at hl 3 rfl) ?_
  refine lv_iload_n hx hb dL_law_503 rfl (lv_at hl 0 rfl) ?_
  refine lv_iconst (v := 3) hx hb dL_law_504 (by decide) ?_
  refine lv_iadd hx hb dL_law_505 ?_
  refine gx_cst (v := 3) (by decide) ?_
  refine va_sld hx hb hX hbl hbA hS (gx_vin rfl) dL_law_506 ?_
  refine gx_cst (v := (xs 3)) rfl ?_
  refine gx_ei (wc := ([(hm, .inr (5, [.ref (am 1), .ref (am 2), .ref (am 3), .ref (am 4), .ref (am 5), .ref (am 6), .ref (am 7), .ref (am 8), .int 0, .ref (am 9), .int 0, .ref (am 10), .int 0, .ref (am 11), .ref (am 12), .int 0, .int 0, .int 1, .null, .null, .int 0, .int 0, .int 0, .long 0, .int 0, .ref (am 13), .int 0, .int 0, .int 0, .ref (am 14), .ref (am 15), .ref (am 16), .ref (am 17), .int 0, .ref (am 18), .ref (am 19), .ref (am 20)])), ((am 9), .inl (k 0, 8, .inl (fun _ => 0))), ((am 1), .inl (k 0, 8, .inl (fun _ => 0))), ((am 6), .inl (k 0, 8, .inl (fun _ => 0))), ((am 7), .inl (k 0, 8, .inl (fun _ => 0)))] : va_W)) (wr := []) (isC := [0, 1, 2, 3, 4]) (isR := []) hP hD hS hA rfl rfl (by decide) (by decide) (gx_runV (na := 3) (As := [.int (xs 1), .int (xs 2), .int (xs 3)]) (rest := [.int r_3]) (ci := 5) C hl.1 hK (gx_subP (wc := ([(hm, .inr (5, [.ref (am 1), .ref (am 2), .ref (am 3), .ref (am 4), .ref (am 5), .ref (am 6), .ref (am 7), .ref (am 8), .int 0, .ref (am 9), .int 0, .ref (am 10), .int 0, .ref (am 11), .ref (am 12), .int 0, .int 0, .int 1, .null, .null, .int 0, .int 0, .int 0, .long 0, .int 0, .ref (am 13), .int 0, .int 0, .int 0, .ref (am 14), .ref (am 15), .ref (am 16), .ref (am 17), .int 0, .ref (am 18), .ref (am 19), .ref (am 20)])), ((am 9), .inl (k 0, 8, .inl (fun _ => 0))), ((am 1), .inl (k 0, 8, .inl (fun _ => 0))), ((am 6), .inl (k 0, 8, .inl (fun _ => 0))), ((am 7), .inl (k 0, 8, .inl (fun _ => 0)))] : va_W)) hP [0, 1, 2, 3, 4] rfl) ((hD.sub (ws' := ([(hm, .inr (5, [.ref (am 1), .ref (am 2), .ref (am 3), .ref (am 4), .ref (am 5), .ref (am 6), .ref (am 7), .ref (am 8), .int 0, .ref (am 9), .int 0, .ref (am 10), .int 0, .ref (am 11), .ref (am 12), .int 0, .int 0, .int 1, .null, .null, .int 0, .int 0, .int 0, .long 0, .int 0, .ref (am 13), .int 0, .int 0, .int 0, .ref (am 14), .ref (am 15), .ref (am 16), .ref (am 17), .int 0, .ref (am 18), .ref (am 19), .ref (am 20)])), ((am 9), .inl (k 0, 8, .inl (fun _ => 0))), ((am 1), .inl (k 0, 8, .inl (fun _ => 0))), ((am 6), .inl (k 0, 8, .inl (fun _ => 0))), ((am 7), .inl (k 0, 8, .inl (fun _ => 0)))] : va_W)) [0, 1, 2, 3, 4] (by decide) rfl).weaken (fun _ _ _ _ => trivial)) (m_rule_pub l D k hm am (xs 1) (xs 2) (xs 3) _) gV_R_law_43 (by decide +kernel) rfl rfl ⟨Nat.le_of_ble_eq_true rfl, Nat.le_of_ble_eq_true rfl⟩ rfl rfl rfl rfl (Nat.le_of_ble_eq_true rfl) dL_law_507 ⟨Nat.le_of_ble_eq_true rfl, Nat.le_of_ble_eq_true rfl⟩) (fun r_7 u_5 H locs h_6 hP hD hS => ?_)
  have h_6 : r_7 = (gs_rule (xs 1) (xs 2) (xs 3)) := h_6
  have hP : va_P D gx_cl [] H := hP
  have hD : va_D A [] := hD
  refine lv_icmp_eq (tgt := 1806) hx hb dL_law_510 (by decide) (fun c_9 => ?_) (fun c_9 => absurd (h_2.trans h_6.symm) c_9)
  exact lc_next C0 hS (Nat.le_of_ble_eq_true rfl) (Nat.le_of_ble_eq_true rfl) (lv_sub hl [0, 3] rfl)
set_option maxHeartbeats 4000000 in
set_option maxRecDepth 100000 in
theorem lc_says {p : Program} {l : Launch} {e : Env} {s : State} {m : MethodId} {below : List Frame} {meth : Method} {c : Code} {b : Nat} {xs : Nat → Int32} {D : va_G} {k : Nat → ClassId} {A : Nat → Prop} (C0 : lc_C p s m meth c b xs D k A) (ad : Nat → Nat) (fs : Nat → Option Nat) (a : Nat) (el : Nat) (hm : Nat) (am : Nat → Nat) (hxhf : gx_b (xs 1) 0 7 = true → fs (xs 1).toNatClampNeg = some a) (H : Heap) (locs : List Loc) (ls : Array Slot) (hP : va_P D gx_cl [((ad 0), .inr (4, [.ref (ad 1), .ref (ad 2), .ref (ad 3), .ref (ad 4), .ref (ad 5), .ref (ad 6), .ref (ad 7), .ref (ad 8), .ref (ad 9), .int 0])), ((ad 9), .inl (k 0, 5, .inl (fun _ => 0))), ((ad 5), .inl (k 2, 8, .inr (.inr (.inr (.inr fs))))), (a, .inr (1, [.ref el, .int 0, .int 0, .int (-1)])), (hm, .inr (5, [.ref (am 1), .ref (am 2), .ref (am 3), .ref (am 4), .ref (am 5), .ref (am 6), .ref (am 7), .ref (am 8), .int 0, .ref (am 9), .int 0, .ref (am 10), .int 0, .ref (am 11), .ref (am 12), .int 0, .int 0, .int 1, .null, .null, .int 0, .int 0, .int 0, .long 0, .int 0, .ref (am 13), .int 0, .int 0, .int 0, .ref (am 14), .ref (am 15), .ref (am 16), .ref (am 17), .int 0, .ref (am 18), .ref (am 19), .ref (am 20)])), ((am 9), .inl (k 0, 8, .inl (fun _ => 0))), ((am 1), .inl (k 0, 8, .inl (fun _ => 0)))] H) (hD : va_D A [((ad 0), .inr (4, [.ref (ad 1), .ref (ad 2), .ref (ad 3), .ref (ad 4), .ref (ad 5), .ref (ad 6), .ref (ad 7), .ref (ad 8), .ref (ad 9), .int 0])), ((ad 9), .inl (k 0, 5, .inl (fun _ => 0))), ((ad 5), .inl (k 2, 8, .inr (.inr (.inr (.inr fs))))), (a, .inr (1, [.ref el, .int 0, .int 0, .int (-1)])), (hm, .inr (5, [.ref (am 1), .ref (am 2), .ref (am 3), .ref (am 4), .ref (am 5), .ref (am 6), .ref (am 7), .ref (am 8), .int 0, .ref (am 9), .int 0, .ref (am 10), .int 0, .ref (am 11), .ref (am 12), .int 0, .int 0, .int 1, .null, .null, .int 0, .int 0, .int 0, .long 0, .int 0, .ref (am 13), .int 0, .int 0, .int 0, .ref (am 14), .ref (am 15), .ref (am 16), .ref (am 17), .int 0, .ref (am 18), .ref (am 19), .ref (am 20)])), ((am 9), .inl (k 0, 8, .inl (fun _ => 0))), ((am 1), .inl (k 0, 8, .inl (fun _ => 0)))]) (hS : va_S A s.heap H locs) (hl : lv_has ls 4 [(3, .int 0), (2, .ref hm), (1, .ref (ad 0)), (0, .ref b)]) : W p l e room_1 s m #[Value.ref b] below meth c H locs 1140 19699 (lw_Z below #[Value.ref b] s) (F0 m 515 ls []) := by
  obtain ⟨C, hK, hX, hbl, hA, hA2, hbA⟩ := id C0
  obtain ⟨hx, hb, hr, hml, hown, hT, hlk, -⟩ := id C
  refine lv_aload_n hx hb dL_law_515 rfl (lv_at hl 2 rfl) ?_
  refine lv_aload_n hx hb dL_law_516 rfl (lv_at hl 3 rfl) ?_
  refine lv_iload_n hx hb dL_law_517 rfl (lv_at hl 0 rfl) ?_
  refine lv_iconst (v := 1) hx hb dL_law_518 (by decide) ?_
  refine lv_iadd hx hb dL_law_519 ?_
  refine gx_cst (v := 1) (by decide) ?_
  refine va_sld hx hb hX hbl hbA hS (gx_vin rfl) dL_law_520 ?_
  refine gx_cst (v := (xs 1)) rfl ?_
  refine lv_aload_n hx hb dL_law_521 rfl (lv_at hl 3 rfl) ?_
  refine lv_iload_n hx hb dL_law_522 rfl (lv_at hl 0 rfl) ?_
  refine lv_iconst (v := 2) hx hb dL_law_523 (by decide) ?_
  refine lv_iadd hx hb dL_law_524 ?_
  refine gx_cst (v := 2) (by decide) ?_
  refine va_sld hx hb hX hbl hbA hS (gx_vin rfl) dL_law_525 ?_
  refine gx_cst (v := (xs 2)) rfl ?_
  refine gx_ei (wc := ([((ad 0), .inr (4, [.ref (ad 1), .ref (ad 2), .ref (ad 3), .ref (ad 4), .ref (ad 5), .ref (ad 6), .ref (ad 7), .ref (ad 8), .ref (ad 9), .int 0])), ((ad 9), .inl (k 0, 5, .inl (fun _ => 0))), ((ad 5), .inl (k 2, 8, .inr (.inr (.inr (.inr fs))))), (a, .inr (1, [.ref el, .int 0, .int 0, .int (-1)]))] : va_W)) (wr := [(hm, .inr (5, [.ref (am 1), .ref (am 2), .ref (am 3), .ref (am 4), .ref (am 5), .ref (am 6), .ref (am 7), .ref (am 8), .int 0, .ref (am 9), .int 0, .ref (am 10), .int 0, .ref (am 11), .ref (am 12), .int 0, .int 0, .int 1, .null, .null, .int 0, .int 0, .int 0, .long 0, .int 0, .ref (am 13), .int 0, .int 0, .int 0, .ref (am 14), .ref (am 15), .ref (am 16), .ref (am 17), .int 0, .ref (am 18), .ref (am 19), .ref (am 20)])), ((am 9), .inl (k 0, 8, .inl (fun _ => 0))), ((am 1), .inl (k 0, 8, .inl (fun _ => 0)))]) (isC := [0, 1, 2, 3]) (isR := [4, 5, 6]) hP hD hS hA rfl rfl (by decide) (by decide) (gx_runV (na := 2) (As := [.int (xs 1), .int (xs 2)]) (rest := []) (ci := 4) C hl.1 hK (gx_subP (wc := ([((ad 0), .inr (4, [.ref (ad 1), .ref (ad 2), .ref (ad 3), .ref (ad 4), .ref (ad 5), .ref (ad 6), .ref (ad 7), .ref (ad 8), .ref (ad 9), .int 0])), ((ad 9), .inl (k 0, 5, .inl (fun _ => 0))), ((ad 5), .inl (k 2, 8, .inr (.inr (.inr (.inr fs))))), (a, .inr (1, [.ref el, .int 0, .int 0, .int (-1)]))] : va_W)) hP [0, 1, 2, 3] rfl) ((hD.sub (ws' := ([((ad 0), .inr (4, [.ref (ad 1), .ref (ad 2), .ref (ad 3), .ref (ad 4), .ref (ad 5), .ref (ad 6), .ref (ad 7), .ref (ad 8), .ref (ad 9), .int 0])), ((ad 9), .inl (k 0, 5, .inl (fun _ => 0))), ((ad 5), .inl (k 2, 8, .inr (.inr (.inr (.inr fs))))), (a, .inr (1, [.ref el, .int 0, .int 0, .int (-1)]))] : va_W)) [0, 1, 2, 3] (by decide) rfl).weaken (fun _ _ _ _ => trivial)) (x_says l D k ad fs a el (xs 1) (xs 2) hxhf _) gV_R_law_44 (by decide +kernel) rfl rfl ⟨Nat.le_of_ble_eq_true rfl, Nat.le_of_ble_eq_true rfl⟩ rfl rfl rfl rfl (Nat.le_of_ble_eq_true rfl) dL_law_526 ⟨Nat.le_of_ble_eq_true rfl, Nat.le_of_ble_eq_true rfl⟩) (fun r_3 u_1 H locs h_2 hP hD hS => ?_)
  have h_2 : r_3 = (gs_says (xs 1) (xs 2)) := h_2
  have hP : va_P D gx_cl [(hm, .inr (5, [.ref (am 1), .ref (am 2), .ref (am 3), .ref (am 4), .ref (am 5), .ref (am 6), .ref (am 7), .ref (am 8), .int 0, .ref (am 9), .int 0, .ref (am 10), .int 0, .ref (am 11), .ref (am 12), .int 0, .int 0, .int 1, .null, .null, .int 0, .int 0, .int 0, .long 0, .int 0, .ref (am 13), .int 0, .int 0, .int 0, .ref (am 14), .ref (am 15), .ref (am 16), .ref (am 17), .int 0, .ref (am 18), .ref (am 19), .ref (am 20)])), ((am 9), .inl (k 0, 8, .inl (fun _ => 0))), ((am 1), .inl (k 0, 8, .inl (fun _ => 0)))] H := hP
  have hD : va_D A [(hm, .inr (5, [.ref (am 1), .ref (am 2), .ref (am 3), .ref (am 4), .ref (am 5), .ref (am 6), .ref (am 7), .ref (am 8), .int 0, .ref (am 9), .int 0, .ref (am 10), .int 0, .ref (am 11), .ref (am 12), .int 0, .int 0, .int 1, .null, .null, .int 0, .int 0, .int 0, .long 0, .int 0, .ref (am 13), .int 0, .int 0, .int 0, .ref (am 14), .ref (am 15), .ref (am 16), .ref (am 17), .int 0, .ref (am 18), .ref (am 19), .ref (am 20)])), ((am 9), .inl (k 0, 8, .inl (fun _ => 0))), ((am 1), .inl (k 0, 8, .inl (fun _ => 0)))] := hD
  refine lv_aload_n hx hb dL_law_529 rfl (lv_at hl 1 rfl) ?_
  refine lv_aload_n hx hb dL_law_530 rfl (lv_at hl 3 rfl) ?_
  refine lv_iload_n hx hb dL_law_531 rfl (lv_at hl 0 rfl) ?_
  refine lv_iconst (v := 1) hx hb dL_law_532 (by decide) ?_
  refine lv_iadd hx hb dL_law_533 ?_
  refine gx_cst (v := 1) (by decide) ?_
  refine va_sld hx hb hX hbl hbA hS (gx_vin rfl) dL_law_534 ?_
  refine gx_cst (v := (xs 1)) rfl ?_
  refine lv_aload_n hx hb dL_law_535 rfl (lv_at hl 3 rfl) ?_
  refine lv_iload_n hx hb dL_law_536 rfl (lv_at hl 0 rfl) ?_
  refine lv_iconst (v := 2) hx hb dL_law_537 (by decide) ?_
  refine lv_iadd hx hb dL_law_538 ?_
  refine gx_cst (v := 2) (by decide) ?_
  refine va_sld hx hb hX hbl hbA hS (gx_vin rfl) dL_law_539 ?_
  refine gx_cst (v := (xs 2)) rfl ?_
  refine gx_ei (wc := ([(hm, .inr (5, [.ref (am 1), .ref (am 2), .ref (am 3), .ref (am 4), .ref (am 5), .ref (am 6), .ref (am 7), .ref (am 8), .int 0, .ref (am 9), .int 0, .ref (am 10), .int 0, .ref (am 11), .ref (am 12), .int 0, .int 0, .int 1, .null, .null, .int 0, .int 0, .int 0, .long 0, .int 0, .ref (am 13), .int 0, .int 0, .int 0, .ref (am 14), .ref (am 15), .ref (am 16), .ref (am 17), .int 0, .ref (am 18), .ref (am 19), .ref (am 20)])), ((am 9), .inl (k 0, 8, .inl (fun _ => 0))), ((am 1), .inl (k 0, 8, .inl (fun _ => 0)))] : va_W)) (wr := []) (isC := [0, 1, 2]) (isR := []) hP hD hS hA rfl rfl (by decide) (by decide) (gx_runV (na := 2) (As := [.int (xs 1), .int (xs 2)]) (rest := [.int r_3]) (ci := 5) C hl.1 hK (gx_subP (wc := ([(hm, .inr (5, [.ref (am 1), .ref (am 2), .ref (am 3), .ref (am 4), .ref (am 5), .ref (am 6), .ref (am 7), .ref (am 8), .int 0, .ref (am 9), .int 0, .ref (am 10), .int 0, .ref (am 11), .ref (am 12), .int 0, .int 0, .int 1, .null, .null, .int 0, .int 0, .int 0, .long 0, .int 0, .ref (am 13), .int 0, .int 0, .int 0, .ref (am 14), .ref (am 15), .ref (am 16), .ref (am 17), .int 0, .ref (am 18), .ref (am 19), .ref (am 20)])), ((am 9), .inl (k 0, 8, .inl (fun _ => 0))), ((am 1), .inl (k 0, 8, .inl (fun _ => 0)))] : va_W)) hP [0, 1, 2] rfl) ((hD.sub (ws' := ([(hm, .inr (5, [.ref (am 1), .ref (am 2), .ref (am 3), .ref (am 4), .ref (am 5), .ref (am 6), .ref (am 7), .ref (am 8), .int 0, .ref (am 9), .int 0, .ref (am 10), .int 0, .ref (am 11), .ref (am 12), .int 0, .int 0, .int 1, .null, .null, .int 0, .int 0, .int 0, .long 0, .int 0, .ref (am 13), .int 0, .int 0, .int 0, .ref (am 14), .ref (am 15), .ref (am 16), .ref (am 17), .int 0, .ref (am 18), .ref (am 19), .ref (am 20)])), ((am 9), .inl (k 0, 8, .inl (fun _ => 0))), ((am 1), .inl (k 0, 8, .inl (fun _ => 0)))] : va_W)) [0, 1, 2] (by decide) rfl).weaken (fun _ _ _ _ => trivial)) (m_says_pub l D k hm am (xs 1) (xs 2) _) gV_R_law_48 (by decide +kernel) rfl rfl ⟨Nat.le_of_ble_eq_true rfl, Nat.le_of_ble_eq_true rfl⟩ rfl rfl rfl rfl (Nat.le_of_ble_eq_true rfl) dL_law_540 ⟨Nat.le_of_ble_eq_true rfl, Nat.le_of_ble_eq_true rfl⟩) (fun r_7 u_5 H locs h_6 hP hD hS => ?_)
  have h_6 : r_7 = (gs_says (xs 1) (xs 2)) := h_6
  have hP : va_P D gx_cl [] H := hP
  have hD : va_D A [] := hD
  refine lv_icmp_eq (tgt := 1806) hx hb dL_law_543 (by decide) (fun c_9 => ?_) (fun c_9 => absurd (h_2.trans h_6.symm) c_9)
  exact lc_next C0 hS (Nat.le_of_ble_eq_true rfl) (Nat.le_of_ble_eq_true rfl) (lv_sub hl [0, 3] rfl)
set_option maxHeartbeats 4000000 in
set_option maxRecDepth 100000 in
theorem lc_road {p : Program} {l : Launch} {e : Env} {s : State} {m : MethodId} {below : List Frame} {meth : Method} {c : Code} {b : Nat} {xs : Nat → Int32} {D : va_G} {k : Nat → ClassId} {A : Nat → Prop} (C0 : lc_C p s m meth c b xs D k A) (ad : Nat → Nat) (hm : Nat) (am : Nat → Nat) (gd : Nat → Option Nat) (gl : Nat → Option Nat) (hmhgd : ∀ i, i < 16 → gd i = some (am (40 + i))) (hmhgl : ∀ i, i < 6 → gl i = some (am (70 + i))) (H : Heap) (locs : List Loc) (ls : Array Slot) (hP : va_P D gx_cl [((ad 0), .inr (4, [.ref (ad 1), .ref (ad 2), .ref (ad 3), .ref (ad 4), .ref (ad 5), .ref (ad 6), .ref (ad 7), .ref (ad 8), .ref (ad 9), .int 0])), ((ad 1), .inr (0, [.ref (ad 10), .ref (ad 11), .ref (ad 12), .ref (ad 13), .ref (ad 14), .ref (ad 15), .ref (ad 16), .ref (ad 17), .ref (ad 18), .int 0, .int 0, .int 0, .int 0, .int 1, .int 0, .int 0, .int 0])), ((ad 9), .inl (k 0, 5, .inl (fun _ => 0))), ((ad 10), .inl (k 0, 16, .inl (fun _ => 0))), ((ad 11), .inl (k 0, 16, .inl (fun _ => 0))), ((ad 12), .inl (k 0, 16, .inl (fun _ => 0))), ((ad 13), .inl (k 0, 16, .inl (fun _ => 0))), (hm, .inr (5, [.ref (am 1), .ref (am 2), .ref (am 3), .ref (am 4), .ref (am 5), .ref (am 6), .ref (am 7), .ref (am 8), .int 0, .ref (am 9), .int 0, .ref (am 10), .int 0, .ref (am 11), .ref (am 12), .int 0, .int 0, .int 1, .null, .null, .int 0, .int 0, .int 0, .long 0, .int 0, .ref (am 13), .int 0, .int 0, .int 0, .ref (am 14), .ref (am 15), .ref (am 16), .ref (am 17), .int 0, .ref (am 18), .ref (am 19), .ref (am 20)])), ((am 9), .inl (k 0, 8, .inl (fun _ => 0))), ((am 10), .inl (k 3, 16, .inr (.inr (.inr (.inr gd))))), ((am 40), .inl (k 0, 5, .inl (gx_zz 0))), ((am 12), .inl (k 3, 6, .inr (.inr (.inr (.inr gl))))), ((am 70), .inl (k 0, 16, .inl (gx_zz 0))), ((am 71), .inl (k 0, 16, .inl (gx_zz 1))), ((am 72), .inl (k 0, 16, .inl (gx_zz 2))), ((am 73), .inl (k 0, 16, .inl (gx_zz 3))), ((am 74), .inl (k 0, 16, .inl (gx_zz 4))), ((am 75), .inl (k 0, 16, .inl (gx_zz 5)))] H) (hD : va_D A [((ad 0), .inr (4, [.ref (ad 1), .ref (ad 2), .ref (ad 3), .ref (ad 4), .ref (ad 5), .ref (ad 6), .ref (ad 7), .ref (ad 8), .ref (ad 9), .int 0])), ((ad 1), .inr (0, [.ref (ad 10), .ref (ad 11), .ref (ad 12), .ref (ad 13), .ref (ad 14), .ref (ad 15), .ref (ad 16), .ref (ad 17), .ref (ad 18), .int 0, .int 0, .int 0, .int 0, .int 1, .int 0, .int 0, .int 0])), ((ad 9), .inl (k 0, 5, .inl (fun _ => 0))), ((ad 10), .inl (k 0, 16, .inl (fun _ => 0))), ((ad 11), .inl (k 0, 16, .inl (fun _ => 0))), ((ad 12), .inl (k 0, 16, .inl (fun _ => 0))), ((ad 13), .inl (k 0, 16, .inl (fun _ => 0))), (hm, .inr (5, [.ref (am 1), .ref (am 2), .ref (am 3), .ref (am 4), .ref (am 5), .ref (am 6), .ref (am 7), .ref (am 8), .int 0, .ref (am 9), .int 0, .ref (am 10), .int 0, .ref (am 11), .ref (am 12), .int 0, .int 0, .int 1, .null, .null, .int 0, .int 0, .int 0, .long 0, .int 0, .ref (am 13), .int 0, .int 0, .int 0, .ref (am 14), .ref (am 15), .ref (am 16), .ref (am 17), .int 0, .ref (am 18), .ref (am 19), .ref (am 20)])), ((am 9), .inl (k 0, 8, .inl (fun _ => 0))), ((am 10), .inl (k 3, 16, .inr (.inr (.inr (.inr gd))))), ((am 40), .inl (k 0, 5, .inl (gx_zz 0))), ((am 12), .inl (k 3, 6, .inr (.inr (.inr (.inr gl))))), ((am 70), .inl (k 0, 16, .inl (gx_zz 0))), ((am 71), .inl (k 0, 16, .inl (gx_zz 1))), ((am 72), .inl (k 0, 16, .inl (gx_zz 2))), ((am 73), .inl (k 0, 16, .inl (gx_zz 3))), ((am 74), .inl (k 0, 16, .inl (gx_zz 4))), ((am 75), .inl (k 0, 16, .inl (gx_zz 5)))]) (hS : va_S A s.heap H locs) (hl : lv_has ls 4 [(3, .int 0), (2, .ref hm), (1, .ref (ad 0)), (0, .ref b)]) : W p l e room_1 s m #[Value.ref b] below meth c H locs 1140 19699 (lw_Z below #[Value.ref b] s) (F0 m 548 ls []) := by
  obtain ⟨C, hK, hX, hbl, hA, hA2, hbA⟩ := id C0
  obtain ⟨hx, hb, hr, hml, hown, hT, hlk, -⟩ := id C
  refine lv_aload_n hx hb dL_law_548 rfl (lv_at hl 2 rfl) ?_
  refine lv_aload_n hx hb dL_law_549 rfl (lv_at hl 3 rfl) ?_
  refine lv_iload_n hx hb dL_law_550 rfl (lv_at hl 0 rfl) ?_
  refine lv_iconst (v := 1) hx hb dL_law_551 (by decide) ?_
  refine lv_iadd hx hb dL_law_552 ?_
  refine gx_cst (v := 1) (by decide) ?_
  refine va_sld hx hb hX hbl hbA hS (gx_vin rfl) dL_law_553 ?_
  refine gx_cst (v := (xs 1)) rfl ?_
  refine lv_aload_n hx hb dL_law_554 rfl (lv_at hl 3 rfl) ?_
  refine lv_iload_n hx hb dL_law_555 rfl (lv_at hl 0 rfl) ?_
  refine lv_iconst (v := 2) hx hb dL_law_556 (by decide) ?_
  refine lv_iadd hx hb dL_law_557 ?_
  refine gx_cst (v := 2) (by decide) ?_
  refine va_sld hx hb hX hbl hbA hS (gx_vin rfl) dL_law_558 ?_
  refine gx_cst (v := (xs 2)) rfl ?_
  refine lv_aload_n hx hb dL_law_559 rfl (lv_at hl 3 rfl) ?_
  refine lv_iload_n hx hb dL_law_560 rfl (lv_at hl 0 rfl) ?_
  refine lv_iconst (v := 3) hx hb dL_law_561 (by decide) ?_
  refine lv_iadd hx hb dL_law_562 ?_
  refine gx_cst (v := 3) (by decide) ?_
  refine va_sld hx hb hX hbl hbA hS (gx_vin rfl) dL_law_563 ?_
  refine gx_cst (v := (xs 3)) rfl ?_
  refine lv_aload_n hx hb dL_law_564 rfl (lv_at hl 3 rfl) ?_
  refine lv_iload_n hx hb dL_law_565 rfl (lv_at hl 0 rfl) ?_
  refine lv_iconst (v := 4) hx hb dL_law_566 (by decide) ?_
  refine lv_iadd hx hb dL_law_567 ?_
  refine gx_cst (v := 4) (by decide) ?_
  refine va_sld hx hb hX hbl hbA hS (gx_vin rfl) dL_law_568 ?_
  refine gx_cst (v := (xs 4)) rfl ?_
  refine lv_if_eq (tgt := 576) hx hb dL_law_569 (by decide) (fun c_1 => ?_) (fun c_1 => ?_)
  · refine lv_iconst (v := 0) hx hb dL_law_576 (by decide) ?_
    refine gx_ei (wc := ([((ad 0), .inr (4, [.ref (ad 1), .ref (ad 2), .ref (ad 3), .ref (ad 4), .ref (ad 5), .ref (ad 6), .ref (ad 7), .ref (ad 8), .ref (ad 9), .int 0])), ((ad 1), .inr (0, [.ref (ad 10), .ref (ad 11), .ref (ad 12), .ref (ad 13), .ref (ad 14), .ref (ad 15), .ref (ad 16), .ref (ad 17), .ref (ad 18), .int 0, .int 0, .int 0, .int 0, .int 1, .int 0, .int 0, .int 0])), ((ad 9), .inl (k 0, 5, .inl (fun _ => 0))), ((ad 10), .inl (k 0, 16, .inl (fun _ => 0))), ((ad 11), .inl (k 0, 16, .inl (fun _ => 0))), ((ad 12), .inl (k 0, 16, .inl (fun _ => 0))), ((ad 13), .inl (k 0, 16, .inl (fun _ => 0)))] : va_W)) (wr := [(hm, .inr (5, [.ref (am 1), .ref (am 2), .ref (am 3), .ref (am 4), .ref (am 5), .ref (am 6), .ref (am 7), .ref (am 8), .int 0, .ref (am 9), .int 0, .ref (am 10), .int 0, .ref (am 11), .ref (am 12), .int 0, .int 0, .int 1, .null, .null, .int 0, .int 0, .int 0, .long 0, .int 0, .ref (am 13), .int 0, .int 0, .int 0, .ref (am 14), .ref (am 15), .ref (am 16), .ref (am 17), .int 0, .ref (am 18), .ref (am 19), .ref (am 20)])), ((am 9), .inl (k 0, 8, .inl (fun _ => 0))), ((am 10), .inl (k 3, 16, .inr (.inr (.inr (.inr gd))))), ((am 40), .inl (k 0, 5, .inl (gx_zz 0))), ((am 12), .inl (k 3, 6, .inr (.inr (.inr (.inr gl))))), ((am 70), .inl (k 0, 16, .inl (gx_zz 0))), ((am 71), .inl (k 0, 16, .inl (gx_zz 1))), ((am 72), .inl (k 0, 16, .inl (gx_zz 2))), ((am 73), .inl (k 0, 16, .inl (gx_zz 3))), ((am 74), .inl (k 0, 16, .inl (gx_zz 4))), ((am 75), .inl (k 0, 16, .inl (gx_zz 5)))]) (isC := [0, 1, 2, 3, 4, 5, 6]) (isR := [7, 8, 9, 10, 11, 12, 13, 14, 15, 16, 17]) hP hD hS hA rfl rfl (by decide) (by decide) (gx_runV (na := 4) (As := [.int (xs 1), .int (xs 2), .int (xs 3), .int 0]) (rest := []) (ci := 4) C hl.1 hK (gx_subP (wc := ([((ad 0), .inr (4, [.ref (ad 1), .ref (ad 2), .ref (ad 3), .ref (ad 4), .ref (ad 5), .ref (ad 6), .ref (ad 7), .ref (ad 8), .ref (ad 9), .int 0])), ((ad 1), .inr (0, [.ref (ad 10), .ref (ad 11), .ref (ad 12), .ref (ad 13), .ref (ad 14), .ref (ad 15), .ref (ad 16), .ref (ad 17), .ref (ad 18), .int 0, .int 0, .int 0, .int 0, .int 1, .int 0, .int 0, .int 0])), ((ad 9), .inl (k 0, 5, .inl (fun _ => 0))), ((ad 10), .inl (k 0, 16, .inl (fun _ => 0))), ((ad 11), .inl (k 0, 16, .inl (fun _ => 0))), ((ad 12), .inl (k 0, 16, .inl (fun _ => 0))), ((ad 13), .inl (k 0, 16, .inl (fun _ => 0)))] : va_W)) hP [0, 1, 2, 3, 4, 5, 6] rfl) ((hD.sub (ws' := ([((ad 0), .inr (4, [.ref (ad 1), .ref (ad 2), .ref (ad 3), .ref (ad 4), .ref (ad 5), .ref (ad 6), .ref (ad 7), .ref (ad 8), .ref (ad 9), .int 0])), ((ad 1), .inr (0, [.ref (ad 10), .ref (ad 11), .ref (ad 12), .ref (ad 13), .ref (ad 14), .ref (ad 15), .ref (ad 16), .ref (ad 17), .ref (ad 18), .int 0, .int 0, .int 0, .int 0, .int 1, .int 0, .int 0, .int 0])), ((ad 9), .inl (k 0, 5, .inl (fun _ => 0))), ((ad 10), .inl (k 0, 16, .inl (fun _ => 0))), ((ad 11), .inl (k 0, 16, .inl (fun _ => 0))), ((ad 12), .inl (k 0, 16, .inl (fun _ => 0))), ((ad 13), .inl (k 0, 16, .inl (fun _ => 0)))] : va_W)) [0, 1, 2, 3, 4, 5, 6] (by decide) rfl).weaken (fun _ _ _ _ => trivial)) (x_road l D k ad (xs 1) (xs 2) (xs 3) 0 _) gV_R_law_49 (by decide +kernel) rfl rfl ⟨Nat.le_of_ble_eq_true rfl, Nat.le_of_ble_eq_true rfl⟩ rfl rfl rfl rfl (Nat.le_of_ble_eq_true rfl) dL_law_577 ⟨Nat.le_of_ble_eq_true rfl, Nat.le_of_ble_eq_true rfl⟩) (fun r_4 u_2 H locs h_3 hP hD hS => ?_)
    have h_3 : r_4 = (gs_road (xs 1) (xs 2) (xs 3)) := h_3
    have hP : va_P D gx_cl [(hm, .inr (5, [.ref (am 1), .ref (am 2), .ref (am 3), .ref (am 4), .ref (am 5), .ref (am 6), .ref (am 7), .ref (am 8), .int 0, .ref (am 9), .int 0, .ref (am 10), .int 0, .ref (am 11), .ref (am 12), .int 0, .int 0, .int 1, .null, .null, .int 0, .int 0, .int 0, .long 0, .int 0, .ref (am 13), .int 0, .int 0, .int 0, .ref (am 14), .ref (am 15), .ref (am 16), .ref (am 17), .int 0, .ref (am 18), .ref (am 19), .ref (am 20)])), ((am 9), .inl (k 0, 8, .inl (fun _ => 0))), ((am 10), .inl (k 3, 16, .inr (.inr (.inr (.inr gd))))), ((am 40), .inl (k 0, 5, .inl (gx_zz 0))), ((am 12), .inl (k 3, 6, .inr (.inr (.inr (.inr gl))))), ((am 70), .inl (k 0, 16, .inl (gx_zz 0))), ((am 71), .inl (k 0, 16, .inl (gx_zz 1))), ((am 72), .inl (k 0, 16, .inl (gx_zz 2))), ((am 73), .inl (k 0, 16, .inl (gx_zz 3))), ((am 74), .inl (k 0, 16, .inl (gx_zz 4))), ((am 75), .inl (k 0, 16, .inl (gx_zz 5)))] H := hP
    have hD : va_D A [(hm, .inr (5, [.ref (am 1), .ref (am 2), .ref (am 3), .ref (am 4), .ref (am 5), .ref (am 6), .ref (am 7), .ref (am 8), .int 0, .ref (am 9), .int 0, .ref (am 10), .int 0, .ref (am 11), .ref (am 12), .int 0, .int 0, .int 1, .null, .null, .int 0, .int 0, .int 0, .long 0, .int 0, .ref (am 13), .int 0, .int 0, .int 0, .ref (am 14), .ref (am 15), .ref (am 16), .ref (am 17), .int 0, .ref (am 18), .ref (am 19), .ref (am 20)])), ((am 9), .inl (k 0, 8, .inl (fun _ => 0))), ((am 10), .inl (k 3, 16, .inr (.inr (.inr (.inr gd))))), ((am 40), .inl (k 0, 5, .inl (gx_zz 0))), ((am 12), .inl (k 3, 6, .inr (.inr (.inr (.inr gl))))), ((am 70), .inl (k 0, 16, .inl (gx_zz 0))), ((am 71), .inl (k 0, 16, .inl (gx_zz 1))), ((am 72), .inl (k 0, 16, .inl (gx_zz 2))), ((am 73), .inl (k 0, 16, .inl (gx_zz 3))), ((am 74), .inl (k 0, 16, .inl (gx_zz 4))), ((am 75), .inl (k 0, 16, .inl (gx_zz 5)))] := hD
    refine lv_aload_n hx hb dL_law_580 rfl (lv_at hl 1 rfl) ?_
    refine lv_aload_n hx hb dL_law_581 rfl (lv_at hl 3 rfl) ?_
    refine lv_iload_n hx hb dL_law_582 rfl (lv_at hl 0 rfl) ?_
    refine lv_iconst (v := 1) hx hb dL_law_583 (by decide) ?_
    refine lv_iadd hx hb dL_law_584 ?_
    refine gx_cst (v := 1) (by decide) ?_
    refine va_sld hx hb hX hbl hbA hS (gx_vin rfl) dL_law_585 ?_
    refine gx_cst (v := (xs 1)) rfl ?_
    refine lv_aload_n hx hb dL_law_586 rfl (lv_at hl 3 rfl) ?_
    refine lv_iload_n hx hb dL_law_587 rfl (lv_at hl 0 rfl) ?_
    refine lv_iconst (v := 2) hx hb dL_law_588 (by decide) ?_
    refine lv_iadd hx hb dL_law_589 ?_
    refine gx_cst (v := 2) (by decide) ?_
    refine va_sld hx hb hX hbl hbA hS (gx_vin rfl) dL_law_590 ?_
    refine gx_cst (v := (xs 2)) rfl ?_
    refine lv_aload_n hx hb dL_law_591 rfl (lv_at hl 3 rfl) ?_
    refine lv_iload_n hx hb dL_law_592 rfl (lv_at hl 0 rfl) ?_
    refine lv_iconst (v := 3) hx hb dL_law_593 (by decide) ?_
    refine lv_iadd hx hb dL_law_594 ?_
    refine gx_cst (v := 3) (by decide) ?_
    refine va_sld hx hb hX hbl hbA hS (gx_vin rfl) dL_law_595 ?_
    refine gx_cst (v := (xs 3)) rfl ?_
    refine lv_aload_n hx hb dL_law_596 rfl (lv_at hl 3 rfl) ?_
    refine lv_iload_n hx hb dL_law_597 rfl (lv_at hl 0 rfl) ?_
    refine lv_iconst (v := 4) hx hb dL_law_598 (by decide) ?_
    refine lv_iadd hx hb dL_law_599 ?_
    refine gx_cst (v := 4) (by decide) ?_
    refine va_sld hx hb hX hbl hbA hS (gx_vin rfl) dL_law_600 ?_
    refine gx_cst (v := (xs 4)) rfl ?_
    refine lv_if_eq (tgt := 608) hx hb dL_law_601 (by decide) (fun c_6 => ?_) (fun c_6 => ?_)
    · refine lv_iconst (v := 0) hx hb dL_law_608 (by decide) ?_
      refine gx_ei (wc := ([(hm, .inr (5, [.ref (am 1), .ref (am 2), .ref (am 3), .ref (am 4), .ref (am 5), .ref (am 6), .ref (am 7), .ref (am 8), .int 0, .ref (am 9), .int 0, .ref (am 10), .int 0, .ref (am 11), .ref (am 12), .int 0, .int 0, .int 1, .null, .null, .int 0, .int 0, .int 0, .long 0, .int 0, .ref (am 13), .int 0, .int 0, .int 0, .ref (am 14), .ref (am 15), .ref (am 16), .ref (am 17), .int 0, .ref (am 18), .ref (am 19), .ref (am 20)])), ((am 9), .inl (k 0, 8, .inl (fun _ => 0))), ((am 10), .inl (k 3, 16, .inr (.inr (.inr (.inr gd))))), ((am 40), .inl (k 0, 5, .inl (gx_zz 0))), ((am 12), .inl (k 3, 6, .inr (.inr (.inr (.inr gl))))), ((am 70), .inl (k 0, 16, .inl (gx_zz 0))), ((am 71), .inl (k 0, 16, .inl (gx_zz 1))), ((am 72), .inl (k 0, 16, .inl (gx_zz 2))), ((am 73), .inl (k 0, 16, .inl (gx_zz 3))), ((am 74), .inl (k 0, 16, .inl (gx_zz 4))), ((am 75), .inl (k 0, 16, .inl (gx_zz 5)))] : va_W)) (wr := []) (isC := [0, 1, 2, 3, 4, 5, 6, 7, 8, 9, 10]) (isR := []) hP hD hS hA rfl rfl (by decide) (by decide) (gx_runV (na := 4) (As := [.int (xs 1), .int (xs 2), .int (xs 3), .int 0]) (rest := [.int r_4]) (ci := 5) C hl.1 hK (gx_subP (wc := ([(hm, .inr (5, [.ref (am 1), .ref (am 2), .ref (am 3), .ref (am 4), .ref (am 5), .ref (am 6), .ref (am 7), .ref (am 8), .int 0, .ref (am 9), .int 0, .ref (am 10), .int 0, .ref (am 11), .ref (am 12), .int 0, .int 0, .int 1, .null, .null, .int 0, .int 0, .int 0, .long 0, .int 0, .ref (am 13), .int 0, .int 0, .int 0, .ref (am 14), .ref (am 15), .ref (am 16), .ref (am 17), .int 0, .ref (am 18), .ref (am 19), .ref (am 20)])), ((am 9), .inl (k 0, 8, .inl (fun _ => 0))), ((am 10), .inl (k 3, 16, .inr (.inr (.inr (.inr gd))))), ((am 40), .inl (k 0, 5, .inl (gx_zz 0))), ((am 12), .inl (k 3, 6, .inr (.inr (.inr (.inr gl))))), ((am 70), .inl (k 0, 16, .inl (gx_zz 0))), ((am 71), .inl (k 0, 16, .inl (gx_zz 1))), ((am 72), .inl (k 0, 16, .inl (gx_zz 2))), ((am 73), .inl (k 0, 16, .inl (gx_zz 3))), ((am 74), .inl (k 0, 16, .inl (gx_zz 4))), ((am 75), .inl (k 0, 16, .inl (gx_zz 5)))] : va_W)) hP [0, 1, 2, 3, 4, 5, 6, 7, 8, 9, 10] rfl) ((hD.sub (ws' := ([(hm, .inr (5, [.ref (am 1), .ref (am 2), .ref (am 3), .ref (am 4), .ref (am 5), .ref (am 6), .ref (am 7), .ref (am 8), .int 0, .ref (am 9), .int 0, .ref (am 10), .int 0, .ref (am 11), .ref (am 12), .int 0, .int 0, .int 1, .null, .null, .int 0, .int 0, .int 0, .long 0, .int 0, .ref (am 13), .int 0, .int 0, .int 0, .ref (am 14), .ref (am 15), .ref (am 16), .ref (am 17), .int 0, .ref (am 18), .ref (am 19), .ref (am 20)])), ((am 9), .inl (k 0, 8, .inl (fun _ => 0))), ((am 10), .inl (k 3, 16, .inr (.inr (.inr (.inr gd))))), ((am 40), .inl (k 0, 5, .inl (gx_zz 0))), ((am 12), .inl (k 3, 6, .inr (.inr (.inr (.inr gl))))), ((am 70), .inl (k 0, 16, .inl (gx_zz 0))), ((am 71), .inl (k 0, 16, .inl (gx_zz 1))), ((am 72), .inl (k 0, 16, .inl (gx_zz 2))), ((am 73), .inl (k 0, 16, .inl (gx_zz 3))), ((am 74), .inl (k 0, 16, .inl (gx_zz 4))), ((am 75), .inl (k 0, 16, .inl (gx_zz 5)))] : va_W)) [0, 1, 2, 3, 4, 5, 6, 7, 8, 9, 10] (by decide) rfl).weaken (fun _ _ _ _ => trivial)) (m_road_pub l D k hm am gd gl (xs 1) (xs 2) (xs 3) 0 hmhgd hmhgl _) gV_R_law_53 (by decide +kernel) rfl rfl ⟨Nat.le_of_ble_eq_true rfl, Nat.le_of_ble_eq_true rfl⟩ rfl rfl rfl rfl (Nat.le_of_ble_eq_true rfl) dL_law_609 ⟨Nat.le_of_ble_eq_true rfl, Nat.le_of_ble_eq_true rfl⟩) (fun r_9 u_7 H locs h_8 hP hD hS => ?_)
      have h_8 : r_9 = (gs_road (xs 1) (xs 2) (xs 3)) := h_8
      have hP : va_P D gx_cl [] H := hP
      have hD : va_D A [] := hD
      refine lv_icmp_eq (tgt := 1806) hx hb dL_law_612 (by decide) (fun c_11 => ?_) (fun c_11 => absurd (h_3.trans h_8.symm) c_11)
      exact lc_next C0 hS (Nat.le_of_ble_eq_true rfl) (Nat.le_of_ble_eq_true rfl) (lv_sub hl [0, 3] rfl)
    · refine lv_iconst (v := 1) hx hb dL_law_604 (by decide) ?_
      refine lv_goto (tgt := 609) hx hb dL_law_605 (by decide) ?_
      refine gx_ei (wc := ([(hm, .inr (5, [.ref (am 1), .ref (am 2), .ref (am 3), .ref (am 4), .ref (am 5), .ref (am 6), .ref (am 7), .ref (am 8), .int 0, .ref (am 9), .int 0, .ref (am 10), .int 0, .ref (am 11), .ref (am 12), .int 0, .int 0, .int 1, .null, .null, .int 0, .int 0, .int 0, .long 0, .int 0, .ref (am 13), .int 0, .int 0, .int 0, .ref (am 14), .ref (am 15), .ref (am 16), .ref (am 17), .int 0, .ref (am 18), .ref (am 19), .ref (am 20)])), ((am 9), .inl (k 0, 8, .inl (fun _ => 0))), ((am 10), .inl (k 3, 16, .inr (.inr (.inr (.inr gd))))), ((am 40), .inl (k 0, 5, .inl (gx_zz 0))), ((am 12), .inl (k 3, 6, .inr (.inr (.inr (.inr gl))))), ((am 70), .inl (k 0, 16, .inl (gx_zz 0))), ((am 71), .inl (k 0, 16, .inl (gx_zz 1))), ((am 72), .inl (k 0, 16, .inl (gx_zz 2))), ((am 73), .inl (k 0, 16, .inl (gx_zz 3))), ((am 74), .inl (k 0, 16, .inl (gx_zz 4))), ((am 75), .inl (k 0, 16, .inl (gx_zz 5)))] : va_W)) (wr := []) (isC := [0, 1, 2, 3, 4, 5, 6, 7, 8, 9, 10]) (isR := []) hP hD hS hA rfl rfl (by decide) (by decide) (gx_runV (na := 4) (As := [.int (xs 1), .int (xs 2), .int (xs 3), .int 1]) (rest := [.int r_4]) (ci := 5) C hl.1 hK (gx_subP (wc := ([(hm, .inr (5, [.ref (am 1), .ref (am 2), .ref (am 3), .ref (am 4), .ref (am 5), .ref (am 6), .ref (am 7), .ref (am 8), .int 0, .ref (am 9), .int 0, .ref (am 10), .int 0, .ref (am 11), .ref (am 12), .int 0, .int 0, .int 1, .null, .null, .int 0, .int 0, .int 0, .long 0, .int 0, .ref (am 13), .int 0, .int 0, .int 0, .ref (am 14), .ref (am 15), .ref (am 16), .ref (am 17), .int 0, .ref (am 18), .ref (am 19), .ref (am 20)])), ((am 9), .inl (k 0, 8, .inl (fun _ => 0))), ((am 10), .inl (k 3, 16, .inr (.inr (.inr (.inr gd))))), ((am 40), .inl (k 0, 5, .inl (gx_zz 0))), ((am 12), .inl (k 3, 6, .inr (.inr (.inr (.inr gl))))), ((am 70), .inl (k 0, 16, .inl (gx_zz 0))), ((am 71), .inl (k 0, 16, .inl (gx_zz 1))), ((am 72), .inl (k 0, 16, .inl (gx_zz 2))), ((am 73), .inl (k 0, 16, .inl (gx_zz 3))), ((am 74), .inl (k 0, 16, .inl (gx_zz 4))), ((am 75), .inl (k 0, 16, .inl (gx_zz 5)))] : va_W)) hP [0, 1, 2, 3, 4, 5, 6, 7, 8, 9, 10] rfl) ((hD.sub (ws' := ([(hm, .inr (5, [.ref (am 1), .ref (am 2), .ref (am 3), .ref (am 4), .ref (am 5), .ref (am 6), .ref (am 7), .ref (am 8), .int 0, .ref (am 9), .int 0, .ref (am 10), .int 0, .ref (am 11), .ref (am 12), .int 0, .int 0, .int 1, .null, .null, .int 0, .int 0, .int 0, .long 0, .int 0, .ref (am 13), .int 0, .int 0, .int 0, .ref (am 14), .ref (am 15), .ref (am 16), .ref (am 17), .int 0, .ref (am 18), .ref (am 19), .ref (am 20)])), ((am 9), .inl (k 0, 8, .inl (fun _ => 0))), ((am 10), .inl (k 3, 16, .inr (.inr (.inr (.inr gd))))), ((am 40), .inl (k 0, 5, .inl (gx_zz 0))), ((am 12), .inl (k 3, 6, .inr (.inr (.inr (.inr gl))))), ((am 70), .inl (k 0, 16, .inl (gx_zz 0))), ((am 71), .inl (k 0, 16, .inl (gx_zz 1))), ((am 72), .inl (k 0, 16, .inl (gx_zz 2))), ((am 73), .inl (k 0, 16, .inl (gx_zz 3))), ((am 74), .inl (k 0, 16, .inl (gx_zz 4))), ((am 75), .inl (k 0, 16, .inl (gx_zz 5)))] : va_W)) [0, 1, 2, 3, 4, 5, 6, 7, 8, 9, 10] (by decide) rfl).weaken (fun _ _ _ _ => trivial)) (m_road_pub l D k hm am gd gl (xs 1) (xs 2) (xs 3) 1 hmhgd hmhgl _) gV_R_law_53 (by decide +kernel) rfl rfl ⟨Nat.le_of_ble_eq_true rfl, Nat.le_of_ble_eq_true rfl⟩ rfl rfl rfl rfl (Nat.le_of_ble_eq_true rfl) dL_law_609 ⟨Nat.le_of_ble_eq_true rfl, Nat.le_of_ble_eq_true rfl⟩) (fun r_14 u_12 H locs h_13 hP hD hS => ?_)
      have h_13 : r_14 = (gs_road (xs 1) (xs 2) (xs 3)) := h_13
      have hP : va_P D gx_cl [] H := hP
      have hD : va_D A [] := hD
      refine lv_icmp_eq (tgt := 1806) hx hb dL_law_612 (by decide) (fun c_16 => ?_) (fun c_16 => absurd (h_3.trans h_13.symm) c_16)
      exact lc_next C0 hS (Nat.le_of_ble_eq_true rfl) (Nat.le_of_ble_eq_true rfl) (lv_sub hl [0, 3] rfl)
  · refine lv_iconst (v := 1) hx hb dL_law_572 (by decide) ?_
    refine lv_goto (tgt := 577) hx hb dL_law_573 (by decide) ?_
    refine gx_ei (wc := ([((ad 0), .inr (4, [.ref (ad 1), .ref (ad 2), .ref (ad 3), .ref (ad 4), .ref (ad 5), .ref (ad 6), .ref (ad 7), .ref (ad 8), .ref (ad 9), .int 0])), ((ad 1), .inr (0, [.ref (ad 10), .ref (ad 11), .ref (ad 12), .ref (ad 13), .ref (ad 14), .ref (ad 15), .ref (ad 16), .ref (ad 17), .ref (ad 18), .int 0, .int 0, .int 0, .int 0, .int 1, .int 0, .int 0, .int 0])), ((ad 9), .inl (k 0, 5, .inl (fun _ => 0))), ((ad 10), .inl (k 0, 16, .inl (fun _ => 0))), ((ad 11), .inl (k 0, 16, .inl (fun _ => 0))), ((ad 12), .inl (k 0, 16, .inl (fun _ => 0))), ((ad 13), .inl (k 0, 16, .inl (fun _ => 0)))] : va_W)) (wr := [(hm, .inr (5, [.ref (am 1), .ref (am 2), .ref (am 3), .ref (am 4), .ref (am 5), .ref (am 6), .ref (am 7), .ref (am 8), .int 0, .ref (am 9), .int 0, .ref (am 10), .int 0, .ref (am 11), .ref (am 12), .int 0, .int 0, .int 1, .null, .null, .int 0, .int 0, .int 0, .long 0, .int 0, .ref (am 13), .int 0, .int 0, .int 0, .ref (am 14), .ref (am 15), .ref (am 16), .ref (am 17), .int 0, .ref (am 18), .ref (am 19), .ref (am 20)])), ((am 9), .inl (k 0, 8, .inl (fun _ => 0))), ((am 10), .inl (k 3, 16, .inr (.inr (.inr (.inr gd))))), ((am 40), .inl (k 0, 5, .inl (gx_zz 0))), ((am 12), .inl (k 3, 6, .inr (.inr (.inr (.inr gl))))), ((am 70), .inl (k 0, 16, .inl (gx_zz 0))), ((am 71), .inl (k 0, 16, .inl (gx_zz 1))), ((am 72), .inl (k 0, 16, .inl (gx_zz 2))), ((am 73), .inl (k 0, 16, .inl (gx_zz 3))), ((am 74), .inl (k 0, 16, .inl (gx_zz 4))), ((am 75), .inl (k 0, 16, .inl (gx_zz 5)))]) (isC := [0, 1, 2, 3, 4, 5, 6]) (isR := [7, 8, 9, 10, 11, 12, 13, 14, 15, 16, 17]) hP hD hS hA rfl rfl (by decide) (by decide) (gx_runV (na := 4) (As := [.int (xs 1), .int (xs 2), .int (xs 3), .int 1]) (rest := []) (ci := 4) C hl.1 hK (gx_subP (wc := ([((ad 0), .inr (4, [.ref (ad 1), .ref (ad 2), .ref (ad 3), .ref (ad 4), .ref (ad 5), .ref (ad 6), .ref (ad 7), .ref (ad 8), .ref (ad 9), .int 0])), ((ad 1), .inr (0, [.ref (ad 10), .ref (ad 11), .ref (ad 12), .ref (ad 13), .ref (ad 14), .ref (ad 15), .ref (ad 16), .ref (ad 17), .ref (ad 18), .int 0, .int 0, .int 0, .int 0, .int 1, .int 0, .int 0, .int 0])), ((ad 9), .inl (k 0, 5, .inl (fun _ => 0))), ((ad 10), .inl (k 0, 16, .inl (fun _ => 0))), ((ad 11), .inl (k 0, 16, .inl (fun _ => 0))), ((ad 12), .inl (k 0, 16, .inl (fun _ => 0))), ((ad 13), .inl (k 0, 16, .inl (fun _ => 0)))] : va_W)) hP [0, 1, 2, 3, 4, 5, 6] rfl) ((hD.sub (ws' := ([((ad 0), .inr (4, [.ref (ad 1), .ref (ad 2), .ref (ad 3), .ref (ad 4), .ref (ad 5), .ref (ad 6), .ref (ad 7), .ref (ad 8), .ref (ad 9), .int 0])), ((ad 1), .inr (0, [.ref (ad 10), .ref (ad 11), .ref (ad 12), .ref (ad 13), .ref (ad 14), .ref (ad 15), .ref (ad 16), .ref (ad 17), .ref (ad 18), .int 0, .int 0, .int 0, .int 0, .int 1, .int 0, .int 0, .int 0])), ((ad 9), .inl (k 0, 5, .inl (fun _ => 0))), ((ad 10), .inl (k 0, 16, .inl (fun _ => 0))), ((ad 11), .inl (k 0, 16, .inl (fun _ => 0))), ((ad 12), .inl (k 0, 16, .inl (fun _ => 0))), ((ad 13), .inl (k 0, 16, .inl (fun _ => 0)))] : va_W)) [0, 1, 2, 3, 4, 5, 6] (by decide) rfl).weaken (fun _ _ _ _ => trivial)) (x_road l D k ad (xs 1) (xs 2) (xs 3) 1 _) gV_R_law_49 (by decide +kernel) rfl rfl ⟨Nat.le_of_ble_eq_true rfl, Nat.le_of_ble_eq_true rfl⟩ rfl rfl rfl rfl (Nat.le_of_ble_eq_true rfl) dL_law_577 ⟨Nat.le_of_ble_eq_true rfl, Nat.le_of_ble_eq_true rfl⟩) (fun r_19 u_17 H locs h_18 hP hD hS => ?_)
    have h_18 : r_19 = (gs_road (xs 1) (xs 2) (xs 3)) := h_18
    have hP : va_P D gx_cl [(hm, .inr (5, [.ref (am 1), .ref (am 2), .ref (am 3), .ref (am 4), .ref (am 5), .ref (am 6), .ref (am 7), .ref (am 8), .int 0, .ref (am 9), .int 0, .ref (am 10), .int 0, .ref (am 11), .ref (am 12), .int 0, .int 0, .int 1, .null, .null, .int 0, .int 0, .int 0, .long 0, .int 0, .ref (am 13), .int 0, .int 0, .int 0, .ref (am 14), .ref (am 15), .ref (am 16), .ref (am 17), .int 0, .ref (am 18), .ref (am 19), .ref (am 20)])), ((am 9), .inl (k 0, 8, .inl (fun _ => 0))), ((am 10), .inl (k 3, 16, .inr (.inr (.inr (.inr gd))))), ((am 40), .inl (k 0, 5, .inl (gx_zz 0))), ((am 12), .inl (k 3, 6, .inr (.inr (.inr (.inr gl))))), ((am 70), .inl (k 0, 16, .inl (gx_zz 0))), ((am 71), .inl (k 0, 16, .inl (gx_zz 1))), ((am 72), .inl (k 0, 16, .inl (gx_zz 2))), ((am 73), .inl (k 0, 16, .inl (gx_zz 3))), ((am 74), .inl (k 0, 16, .inl (gx_zz 4))), ((am 75), .inl (k 0, 16, .inl (gx_zz 5)))] H := hP
    have hD : va_D A [(hm, .inr (5, [.ref (am 1), .ref (am 2), .ref (am 3), .ref (am 4), .ref (am 5), .ref (am 6), .ref (am 7), .ref (am 8), .int 0, .ref (am 9), .int 0, .ref (am 10), .int 0, .ref (am 11), .ref (am 12), .int 0, .int 0, .int 1, .null, .null, .int 0, .int 0, .int 0, .long 0, .int 0, .ref (am 13), .int 0, .int 0, .int 0, .ref (am 14), .ref (am 15), .ref (am 16), .ref (am 17), .int 0, .ref (am 18), .ref (am 19), .ref (am 20)])), ((am 9), .inl (k 0, 8, .inl (fun _ => 0))), ((am 10), .inl (k 3, 16, .inr (.inr (.inr (.inr gd))))), ((am 40), .inl (k 0, 5, .inl (gx_zz 0))), ((am 12), .inl (k 3, 6, .inr (.inr (.inr (.inr gl))))), ((am 70), .inl (k 0, 16, .inl (gx_zz 0))), ((am 71), .inl (k 0, 16, .inl (gx_zz 1))), ((am 72), .inl (k 0, 16, .inl (gx_zz 2))), ((am 73), .inl (k 0, 16, .inl (gx_zz 3))), ((am 74), .inl (k 0, 16, .inl (gx_zz 4))), ((am 75), .inl (k 0, 16, .inl (gx_zz 5)))] := hD
    refine lv_aload_n hx hb dL_law_580 rfl (lv_at hl 1 rfl) ?_
    refine lv_aload_n hx hb dL_law_581 rfl (lv_at hl 3 rfl) ?_
    refine lv_iload_n hx hb dL_law_582 rfl (lv_at hl 0 rfl) ?_
    refine lv_iconst (v := 1) hx hb dL_law_583 (by decide) ?_
    refine lv_iadd hx hb dL_law_584 ?_
    refine gx_cst (v := 1) (by decide) ?_
    refine va_sld hx hb hX hbl hbA hS (gx_vin rfl) dL_law_585 ?_
    refine gx_cst (v := (xs 1)) rfl ?_
    refine lv_aload_n hx hb dL_law_586 rfl (lv_at hl 3 rfl) ?_
    refine lv_iload_n hx hb dL_law_587 rfl (lv_at hl 0 rfl) ?_
    refine lv_iconst (v := 2) hx hb dL_law_588 (by decide) ?_
    refine lv_iadd hx hb dL_law_589 ?_
    refine gx_cst (v := 2) (by decide) ?_
    refine va_sld hx hb hX hbl hbA hS (gx_vin rfl) dL_law_590 ?_
    refine gx_cst (v := (xs 2)) rfl ?_
    refine lv_aload_n hx hb dL_law_591 rfl (lv_at hl 3 rfl) ?_
    refine lv_iload_n hx hb dL_law_592 rfl (lv_at hl 0 rfl) ?_
    refine lv_iconst (v := 3) hx hb dL_law_593 (by decide) ?_
    refine lv_iadd hx hb dL_law_594 ?_
    refine gx_cst (v := 3) (by decide) ?_
    refine va_sld hx hb hX hbl hbA hS (gx_vin rfl) dL_law_595 ?_
    refine gx_cst (v := (xs 3)) rfl ?_
    refine lv_aload_n hx hb dL_law_596 rfl (lv_at hl 3 rfl) ?_
    refine lv_iload_n hx hb dL_law_597 rfl (lv_at hl 0 rfl) ?_
    refine lv_iconst (v := 4) hx hb dL_law_598 (by decide) ?_
    refine lv_iadd hx hb dL_law_599 ?_
    refine gx_cst (v := 4) (by decide) ?_
    refine va_sld hx hb hX hbl hbA hS (gx_vin rfl) dL_law_600 ?_
    refine gx_cst (v := (xs 4)) rfl ?_
    refine lv_if_eq (tgt := 608) hx hb dL_law_601 (by decide) (fun c_21 => ?_) (fun c_21 => ?_)
    · refine lv_iconst (v := 0) hx hb dL_law_608 (by decide) ?_
      refine gx_ei (wc := ([(hm, .inr (5, [.ref (am 1), .ref (am 2), .ref (am 3), .ref (am 4), .ref (am 5), .ref (am 6), .ref (am 7), .ref (am 8), .int 0, .ref (am 9), .int 0, .ref (am 10), .int 0, .ref (am 11), .ref (am 12), .int 0, .int 0, .int 1, .null, .null, .int 0, .int 0, .int 0, .long 0, .int 0, .ref (am 13), .int 0, .int 0, .int 0, .ref (am 14), .ref (am 15), .ref (am 16), .ref (am 17), .int 0, .ref (am 18), .ref (am 19), .ref (am 20)])), ((am 9), .inl (k 0, 8, .inl (fun _ => 0))), ((am 10), .inl (k 3, 16, .inr (.inr (.inr (.inr gd))))), ((am 40), .inl (k 0, 5, .inl (gx_zz 0))), ((am 12), .inl (k 3, 6, .inr (.inr (.inr (.inr gl))))), ((am 70), .inl (k 0, 16, .inl (gx_zz 0))), ((am 71), .inl (k 0, 16, .inl (gx_zz 1))), ((am 72), .inl (k 0, 16, .inl (gx_zz 2))), ((am 73), .inl (k 0, 16, .inl (gx_zz 3))), ((am 74), .inl (k 0, 16, .inl (gx_zz 4))), ((am 75), .inl (k 0, 16, .inl (gx_zz 5)))] : va_W)) (wr := []) (isC := [0, 1, 2, 3, 4, 5, 6, 7, 8, 9, 10]) (isR := []) hP hD hS hA rfl rfl (by decide) (by decide) (gx_runV (na := 4) (As := [.int (xs 1), .int (xs 2), .int (xs 3), .int 0]) (rest := [.int r_19]) (ci := 5) C hl.1 hK (gx_subP (wc := ([(hm, .inr (5, [.ref (am 1), .ref (am 2), .ref (am 3), .ref (am 4), .ref (am 5), .ref (am 6), .ref (am 7), .ref (am 8), .int 0, .ref (am 9), .int 0, .ref (am 10), .int 0, .ref (am 11), .ref (am 12), .int 0, .int 0, .int 1, .null, .null, .int 0, .int 0, .int 0, .long 0, .int 0, .ref (am 13), .int 0, .int 0, .int 0, .ref (am 14), .ref (am 15), .ref (am 16), .ref (am 17), .int 0, .ref (am 18), .ref (am 19), .ref (am 20)])), ((am 9), .inl (k 0, 8, .inl (fun _ => 0))), ((am 10), .inl (k 3, 16, .inr (.inr (.inr (.inr gd))))), ((am 40), .inl (k 0, 5, .inl (gx_zz 0))), ((am 12), .inl (k 3, 6, .inr (.inr (.inr (.inr gl))))), ((am 70), .inl (k 0, 16, .inl (gx_zz 0))), ((am 71), .inl (k 0, 16, .inl (gx_zz 1))), ((am 72), .inl (k 0, 16, .inl (gx_zz 2))), ((am 73), .inl (k 0, 16, .inl (gx_zz 3))), ((am 74), .inl (k 0, 16, .inl (gx_zz 4))), ((am 75), .inl (k 0, 16, .inl (gx_zz 5)))] : va_W)) hP [0, 1, 2, 3, 4, 5, 6, 7, 8, 9, 10] rfl) ((hD.sub (ws' := ([(hm, .inr (5, [.ref (am 1), .ref (am 2), .ref (am 3), .ref (am 4), .ref (am 5), .ref (am 6), .ref (am 7), .ref (am 8), .int 0, .ref (am 9), .int 0, .ref (am 10), .int 0, .ref (am 11), .ref (am 12), .int 0, .int 0, .int 1, .null, .null, .int 0, .int 0, .int 0, .long 0, .int 0, .ref (am 13), .int 0, .int 0, .int 0, .ref (am 14), .ref (am 15), .ref (am 16), .ref (am 17), .int 0, .ref (am 18), .ref (am 19), .ref (am 20)])), ((am 9), .inl (k 0, 8, .inl (fun _ => 0))), ((am 10), .inl (k 3, 16, .inr (.inr (.inr (.inr gd))))), ((am 40), .inl (k 0, 5, .inl (gx_zz 0))), ((am 12), .inl (k 3, 6, .inr (.inr (.inr (.inr gl))))), ((am 70), .inl (k 0, 16, .inl (gx_zz 0))), ((am 71), .inl (k 0, 16, .inl (gx_zz 1))), ((am 72), .inl (k 0, 16, .inl (gx_zz 2))), ((am 73), .inl (k 0, 16, .inl (gx_zz 3))), ((am 74), .inl (k 0, 16, .inl (gx_zz 4))), ((am 75), .inl (k 0, 16, .inl (gx_zz 5)))] : va_W)) [0, 1, 2, 3, 4, 5, 6, 7, 8, 9, 10] (by decide) rfl).weaken (fun _ _ _ _ => trivial)) (m_road_pub l D k hm am gd gl (xs 1) (xs 2) (xs 3) 0 hmhgd hmhgl _) gV_R_law_53 (by decide +kernel) rfl rfl ⟨Nat.le_of_ble_eq_true rfl, Nat.le_of_ble_eq_true rfl⟩ rfl rfl rfl rfl (Nat.le_of_ble_eq_true rfl) dL_law_609 ⟨Nat.le_of_ble_eq_true rfl, Nat.le_of_ble_eq_true rfl⟩) (fun r_24 u_22 H locs h_23 hP hD hS => ?_)
      have h_23 : r_24 = (gs_road (xs 1) (xs 2) (xs 3)) := h_23
      have hP : va_P D gx_cl [] H := hP
      have hD : va_D A [] := hD
      refine lv_icmp_eq (tgt := 1806) hx hb dL_law_612 (by decide) (fun c_26 => ?_) (fun c_26 => absurd (h_18.trans h_23.symm) c_26)
      exact lc_next C0 hS (Nat.le_of_ble_eq_true rfl) (Nat.le_of_ble_eq_true rfl) (lv_sub hl [0, 3] rfl)
    · refine lv_iconst (v := 1) hx hb dL_law_604 (by decide) ?_
      refine lv_goto (tgt := 609) hx hb dL_law_605 (by decide) ?_
      refine gx_ei (wc := ([(hm, .inr (5, [.ref (am 1), .ref (am 2), .ref (am 3), .ref (am 4), .ref (am 5), .ref (am 6), .ref (am 7), .ref (am 8), .int 0, .ref (am 9), .int 0, .ref (am 10), .int 0, .ref (am 11), .ref (am 12), .int 0, .int 0, .int 1, .null, .null, .int 0, .int 0, .int 0, .long 0, .int 0, .ref (am 13), .int 0, .int 0, .int 0, .ref (am 14), .ref (am 15), .ref (am 16), .ref (am 17), .int 0, .ref (am 18), .ref (am 19), .ref (am 20)])), ((am 9), .inl (k 0, 8, .inl (fun _ => 0))), ((am 10), .inl (k 3, 16, .inr (.inr (.inr (.inr gd))))), ((am 40), .inl (k 0, 5, .inl (gx_zz 0))), ((am 12), .inl (k 3, 6, .inr (.inr (.inr (.inr gl))))), ((am 70), .inl (k 0, 16, .inl (gx_zz 0))), ((am 71), .inl (k 0, 16, .inl (gx_zz 1))), ((am 72), .inl (k 0, 16, .inl (gx_zz 2))), ((am 73), .inl (k 0, 16, .inl (gx_zz 3))), ((am 74), .inl (k 0, 16, .inl (gx_zz 4))), ((am 75), .inl (k 0, 16, .inl (gx_zz 5)))] : va_W)) (wr := []) (isC := [0, 1, 2, 3, 4, 5, 6, 7, 8, 9, 10]) (isR := []) hP hD hS hA rfl rfl (by decide) (by decide) (gx_runV (na := 4) (As := [.int (xs 1), .int (xs 2), .int (xs 3), .int 1]) (rest := [.int r_19]) (ci := 5) C hl.1 hK (gx_subP (wc := ([(hm, .inr (5, [.ref (am 1), .ref (am 2), .ref (am 3), .ref (am 4), .ref (am 5), .ref (am 6), .ref (am 7), .ref (am 8), .int 0, .ref (am 9), .int 0, .ref (am 10), .int 0, .ref (am 11), .ref (am 12), .int 0, .int 0, .int 1, .null, .null, .int 0, .int 0, .int 0, .long 0, .int 0, .ref (am 13), .int 0, .int 0, .int 0, .ref (am 14), .ref (am 15), .ref (am 16), .ref (am 17), .int 0, .ref (am 18), .ref (am 19), .ref (am 20)])), ((am 9), .inl (k 0, 8, .inl (fun _ => 0))), ((am 10), .inl (k 3, 16, .inr (.inr (.inr (.inr gd))))), ((am 40), .inl (k 0, 5, .inl (gx_zz 0))), ((am 12), .inl (k 3, 6, .inr (.inr (.inr (.inr gl))))), ((am 70), .inl (k 0, 16, .inl (gx_zz 0))), ((am 71), .inl (k 0, 16, .inl (gx_zz 1))), ((am 72), .inl (k 0, 16, .inl (gx_zz 2))), ((am 73), .inl (k 0, 16, .inl (gx_zz 3))), ((am 74), .inl (k 0, 16, .inl (gx_zz 4))), ((am 75), .inl (k 0, 16, .inl (gx_zz 5)))] : va_W)) hP [0, 1, 2, 3, 4, 5, 6, 7, 8, 9, 10] rfl) ((hD.sub (ws' := ([(hm, .inr (5, [.ref (am 1), .ref (am 2), .ref (am 3), .ref (am 4), .ref (am 5), .ref (am 6), .ref (am 7), .ref (am 8), .int 0, .ref (am 9), .int 0, .ref (am 10), .int 0, .ref (am 11), .ref (am 12), .int 0, .int 0, .int 1, .null, .null, .int 0, .int 0, .int 0, .long 0, .int 0, .ref (am 13), .int 0, .int 0, .int 0, .ref (am 14), .ref (am 15), .ref (am 16), .ref (am 17), .int 0, .ref (am 18), .ref (am 19), .ref (am 20)])), ((am 9), .inl (k 0, 8, .inl (fun _ => 0))), ((am 10), .inl (k 3, 16, .inr (.inr (.inr (.inr gd))))), ((am 40), .inl (k 0, 5, .inl (gx_zz 0))), ((am 12), .inl (k 3, 6, .inr (.inr (.inr (.inr gl))))), ((am 70), .inl (k 0, 16, .inl (gx_zz 0))), ((am 71), .inl (k 0, 16, .inl (gx_zz 1))), ((am 72), .inl (k 0, 16, .inl (gx_zz 2))), ((am 73), .inl (k 0, 16, .inl (gx_zz 3))), ((am 74), .inl (k 0, 16, .inl (gx_zz 4))), ((am 75), .inl (k 0, 16, .inl (gx_zz 5)))] : va_W)) [0, 1, 2, 3, 4, 5, 6, 7, 8, 9, 10] (by decide) rfl).weaken (fun _ _ _ _ => trivial)) (m_road_pub l D k hm am gd gl (xs 1) (xs 2) (xs 3) 1 hmhgd hmhgl _) gV_R_law_53 (by decide +kernel) rfl rfl ⟨Nat.le_of_ble_eq_true rfl, Nat.le_of_ble_eq_true rfl⟩ rfl rfl rfl rfl (Nat.le_of_ble_eq_true rfl) dL_law_609 ⟨Nat.le_of_ble_eq_true rfl, Nat.le_of_ble_eq_true rfl⟩) (fun r_29 u_27 H locs h_28 hP hD hS => ?_)
      have h_28 : r_29 = (gs_road (xs 1) (xs 2) (xs 3)) := h_28
      have hP : va_P D gx_cl [] H := hP
      have hD : va_D A [] := hD
      refine lv_icmp_eq (tgt := 1806) hx hb dL_law_612 (by decide) (fun c_31 => ?_) (fun c_31 => absurd (h_18.trans h_28.symm) c_31)
      exact lc_next C0 hS (Nat.le_of_ble_eq_true rfl) (Nat.le_of_ble_eq_true rfl) (lv_sub hl [0, 3] rfl)
