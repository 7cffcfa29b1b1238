theorem wd_781 : Cond.methodLink "EachRoadOnceLaw" 153 yX6_lacks ∈ gx_T := gx_in (List.mem_of_getElem? (i := 781) (by decide +kernel)) (by decide +kernel)
theorem wd_782 : Cond.instanceMethod yX6_lacks ∈ gx_T := gx_in (List.mem_of_getElem? (i := 782) (by decide +kernel)) (by decide +kernel)
theorem wd_783 : Cond.selects RX6 yX6_lacks yX6_lacks ∈ gx_T := gx_in (List.mem_of_getElem? (i := 783) (by decide +kernel)) (by decide +kernel)
theorem wd_784 : Cond.code yX6_lacks cX6_lacks 2 (some .int) ∈ gx_T := gx_in (List.mem_of_getElem? (i := 784) (by decide +kernel)) (by decide +kernel)
theorem wd_789 : Cond.methodLink "EachRoadOnceLaw" 157 yX6_longest ∈ gx_T := gx_in (List.mem_of_getElem? (i := 789) (by decide +kernel)) (by decide +kernel)
theorem wd_790 : Cond.instanceMethod yX6_longest ∈ gx_T := gx_in (List.mem_of_getElem? (i := 790) (by decide +kernel)) (by decide +kernel)
theorem wd_791 : Cond.selects RX6 yX6_longest yX6_longest ∈ gx_T := gx_in (List.mem_of_getElem? (i := 791) (by decide +kernel)) (by decide +kernel)
theorem wd_792 : Cond.code yX6_longest cX6_longest 4 (some .int) ∈ gx_T := gx_in (List.mem_of_getElem? (i := 792) (by decide +kernel)) (by decide +kernel)
theorem wd_828 : Cond.methodLink "EachRoadOnceLaw" 161 yX6_errands ∈ gx_T := gx_in (List.mem_of_getElem? (i := 828) (by decide +kernel)) (by decide +kernel)
theorem wd_829 : Cond.instanceMethod yX6_errands ∈ gx_T := gx_in (List.mem_of_getElem? (i := 829) (by decide +kernel)) (by decide +kernel)
theorem wd_830 : Cond.selects RX6 yX6_errands yX6_errands ∈ gx_T := gx_in (List.mem_of_getElem? (i := 830) (by decide +kernel)) (by decide +kernel)
theorem wd_831 : Cond.code yX6_errands cX6_errands 4 (some .int) ∈ gx_T := gx_in (List.mem_of_getElem? (i := 831) (by decide +kernel)) (by decide +kernel)
theorem wd_841 : Cond.methodLink "EachRoadOnceLaw" 165 yX6_cut ∈ gx_T := gx_in (List.mem_of_getElem? (i := 841) (by decide +kernel)) (by decide +kernel)
theorem wd_842 : Cond.instanceMethod yX6_cut ∈ gx_T := gx_in (List.mem_of_getElem? (i := 842) (by decide +kernel)) (by decide +kernel)
theorem wd_843 : Cond.selects RX6 yX6_cut yX6_cut ∈ gx_T := gx_in (List.mem_of_getElem? (i := 843) (by decide +kernel)) (by decide +kernel)
theorem wd_844 : Cond.code yX6_cut cX6_cut 4 (some .int) ∈ gx_T := gx_in (List.mem_of_getElem? (i := 844) (by decide +kernel)) (by decide +kernel)
theorem wd_846 : Cond.methodLink "EachRoadOnceLaw" 169 yX6_meets ∈ gx_T := gx_in (List.mem_of_getElem? (i := 846) (by decide +kernel)) (by decide +kernel)
theorem wd_847 : Cond.instanceMethod yX6_meets ∈ gx_T := gx_in (List.mem_of_getElem? (i := 847) (by decide +kernel)) (by decide +kernel)
theorem wd_848 : Cond.selects RX6 yX6_meets yX6_meets ∈ gx_T := gx_in (List.mem_of_getElem? (i := 848) (by decide +kernel)) (by decide +kernel)
theorem wd_849 : Cond.code yX6_meets cX6_meets 6 (some .int) ∈ gx_T := gx_in (List.mem_of_getElem? (i := 849) (by decide +kernel)) (by decide +kernel)
theorem wd_854 : Cond.methodLink "EachRoadOnceLaw" 173 yX6_near ∈ gx_T := gx_in (List.mem_of_getElem? (i := 854) (by decide +kernel)) (by decide +kernel)
theorem wd_855 : Cond.instanceMethod yX6_near ∈ gx_T := gx_in (List.mem_of_getElem? (i := 855) (by decide +kernel)) (by decide +kernel)
theorem wd_856 : Cond.selects RX6 yX6_near yX6_near ∈ gx_T := gx_in (List.mem_of_getElem? (i := 856) (by decide +kernel)) (by decide +kernel)
theorem wd_857 : Cond.code yX6_near cX6_near 3 (some .int) ∈ gx_T := gx_in (List.mem_of_getElem? (i := 857) (by decide +kernel)) (by decide +kernel)
theorem wd_865 : Cond.methodLink "EachRoadOnceLaw" 177 yX6_together ∈ gx_T := gx_in (List.mem_of_getElem? (i := 865) (by decide +kernel)) (by decide +kernel)
theorem wd_866 : Cond.instanceMethod yX6_together ∈ gx_T := gx_in (List.mem_of_getElem? (i := 866) (by decide +kernel)) (by decide +kernel)
theorem wd_867 : Cond.selects RX6 yX6_together yX6_together ∈ gx_T := gx_in (List.mem_of_getElem? (i := 867) (by decide +kernel)) (by decide +kernel)
theorem wd_868 : Cond.code yX6_together cX6_together 5 (some .int) ∈ gx_T := gx_in (List.mem_of_getElem? (i := 868) (by decide +kernel)) (by decide +kernel)
theorem wd_873 : Cond.methodLink "EachRoadOnceLaw" 181 yX6_frees ∈ gx_T := gx_in (List.mem_of_getElem? (i := 873) (by decide +kernel)) (by decide +kernel)
theorem wd_874 : Cond.instanceMethod yX6_frees ∈ gx_T := gx_in (List.mem_of_getElem? (i := 874) (by decide +kernel)) (by decide +kernel)
theorem wd_875 : Cond.selects RX6 yX6_frees yX6_frees ∈ gx_T := gx_in (List.mem_of_getElem? (i := 875) (by decide +kernel)) (by decide +kernel)
theorem wd_876 : Cond.code yX6_frees cX6_frees 2 (some .int) ∈ gx_T := gx_in (List.mem_of_getElem? (i := 876) (by decide +kernel)) (by decide +kernel)
theorem wd_1365 : Cond.methodLink "EachRoadOnceLaw" 156 yX7_lacks ∈ gx_T := gx_in (List.mem_of_getElem? (i := 1365) (by decide +kernel)) (by decide +kernel)
theorem wd_1366 : Cond.instanceMethod yX7_lacks ∈ gx_T := gx_in (List.mem_of_getElem? (i := 1366) (by decide +kernel)) (by decide +kernel)
theorem wd_1367 : Cond.selects RX7 yX7_lacks yX7_lacks ∈ gx_T := gx_in (List.mem_of_getElem? (i := 1367) (by decide +kernel)) (by decide +kernel)
theorem wd_1368 : Cond.code yX7_lacks cX7_lacks 10 (some .int) ∈ gx_T := gx_in (List.mem_of_getElem? (i := 1368) (by decide +kernel)) (by decide +kernel)
theorem wd_1369 : Cond.methodLink "EachRoadOnceLaw" 160 yX7_longest ∈ gx_T := gx_in (List.mem_of_getElem? (i := 1369) (by decide +kernel)) (by decide +kernel)
theorem wd_1370 : Cond.instanceMethod yX7_longest ∈ gx_T := gx_in (List.mem_of_getElem? (i := 1370) (by decide +kernel)) (by decide +kernel)
theorem wd_1371 : Cond.selects RX7 yX7_longest yX7_longest ∈ gx_T := gx_in (List.mem_of_getElem? (i := 1371) (by decide +kernel)) (by decide +kernel)
theorem wd_1372 : Cond.code yX7_longest cX7_longest 11 (some .int) ∈ gx_T := gx_in (List.mem_of_getElem? (i := 1372) (by decide +kernel)) (by decide +kernel)
theorem wd_1377 : Cond.methodLink "EachRoadOnceLaw" 164 yX7_errands ∈ gx_T := gx_in (List.mem_of_getElem? (i := 1377) (by decide +kernel)) (by decide +kernel)
theorem wd_1378 : Cond.instanceMethod yX7_errands ∈ gx_T := gx_in (List.mem_of_getElem? (i := 1378) (by decide +kernel)) (by decide +kernel)
theorem wd_1379 : Cond.selects RX7 yX7_errands yX7_errands ∈ gx_T := gx_in (List.mem_of_getElem? (i := 1379) (by decide +kernel)) (by decide +kernel)
theorem wd_1380 : Cond.code yX7_errands cX7_errands 4 (some .int) ∈ gx_T := gx_in (List.mem_of_getElem? (i := 1380) (by decide +kernel)) (by decide +kernel)
theorem wd_1393 : Cond.methodLink "EachRoadOnceLaw" 168 yX7_cut ∈ gx_T := gx_in (List.mem_of_getElem? (i := 1393) (by decide +kernel)) (by decide +kernel)
theorem wd_1394 : Cond.instanceMethod yX7_cut ∈ gx_T := gx_in (List.mem_of_getElem? (i := 1394) (by decide +kernel)) (by decide +kernel)
theorem wd_1395 : Cond.selects RX7 yX7_cut yX7_cut ∈ gx_T := gx_in (List.mem_of_getElem? (i := 1395) (by decide +kernel)) (by decide +kernel)
theorem wd_1396 : Cond.code yX7_cut cX7_cut 4 (some .int) ∈ gx_T := gx_in (List.mem_of_getElem? (i := 1396) (by decide +kernel)) (by decide +kernel)
theorem wd_1397 : Cond.methodLink "EachRoadOnceLaw" 172 yX7_meets ∈ gx_T := gx_in (List.mem_of_getElem? (i := 1397) (by decide +kernel)) (by decide +kernel)
theorem wd_1398 : Cond.instanceMethod yX7_meets ∈ gx_T := gx_in (List.mem_of_getElem? (i := 1398) (by decide +kernel)) (by decide +kernel)
theorem wd_1399 : Cond.selects RX7 yX7_meets yX7_meets ∈ gx_T := gx_in (List.mem_of_getElem? (i := 1399) (by decide +kernel)) (by decide +kernel)
theorem wd_1400 : Cond.code yX7_meets cX7_meets 14 (some .int) ∈ gx_T := gx_in (List.mem_of_getElem? (i := 1400) (by decide +kernel)) (by decide +kernel)
theorem wd_1405 : Cond.methodLink "EachRoadOnceLaw" 176 yX7_near ∈ gx_T := gx_in (List.mem_of_getElem? (i := 1405) (by decide +kernel)) (by decide +kernel)
theorem wd_1406 : Cond.instanceMethod yX7_near ∈ gx_T := gx_in (List.mem_of_getElem? (i := 1406) (by decide +kernel)) (by decide +kernel)
theorem wd_1407 : Cond.selects RX7 yX7_near yX7_near ∈ gx_T := gx_in (List.mem_of_getElem? (i := 1407) (by decide +kernel)) (by decide +kernel)
theorem wd_1408 : Cond.code yX7_near cX7_near 3 (some .int) ∈ gx_T := gx_in (List.mem_of_getElem? (i := 1408) (by decide +kernel)) (by decide +kernel)
theorem wd_1414 : Cond.methodLink "EachRoadOnceLaw" 180 yX7_together ∈ gx_T := gx_in (List.mem_of_getElem? (i := 1414) (by decide +kernel)) (by decide +kernel)
theorem wd_1415 : Cond.instanceMethod yX7_together ∈ gx_T := gx_in (List.mem_of_getElem? (i := 1415) (by decide +kernel)) (by decide +kernel)
theorem wd_1416 : Cond.selects RX7 yX7_together yX7_together ∈ gx_T := gx_in (List.mem_of_getElem? (i := 1416) (by decide +kernel)) (by decide +kernel)
theorem wd_1417 : Cond.code yX7_together cX7_together 7 (some .int) ∈ gx_T := gx_in (List.mem_of_getElem? (i := 1417) (by decide +kernel)) (by decide +kernel)
theorem wd_1418 : Cond.methodLink "EachRoadOnceLaw" 184 yX7_frees ∈ gx_T := gx_in (List.mem_of_getElem? (i := 1418) (by decide +kernel)) (by decide +kernel)
theorem wd_1419 : Cond.instanceMethod yX7_frees ∈ gx_T := gx_in (List.mem_of_getElem? (i := 1419) (by decide +kernel)) (by decide +kernel)
theorem wd_1420 : Cond.selects RX7 yX7_frees yX7_frees ∈ gx_T := gx_in (List.mem_of_getElem? (i := 1420) (by decide +kernel)) (by decide +kernel)
theorem wd_1421 : Cond.code yX7_frees cX7_frees 2 (some .int) ∈ gx_T := gx_in (List.mem_of_getElem? (i := 1421) (by decide +kernel)) (by decide +kernel)
theorem gV_R_law_153 : GoodIn gx_T (wsV R_law 153 RX6 yX6_lacks (.code yX6_lacks cX6_lacks 2 (some .int) :: gx_T)) := gx_gV wd_781 wd_782 wd_783 wd_69 wd_784
theorem gV_R_law_156 : GoodIn gx_T (wsV R_law 156 RX7 yX7_lacks (.code yX7_lacks cX7_lacks 10 (some .int) :: gx_T)) := gx_gV wd_1365 wd_1366 wd_1367 wd_75 wd_1368
theorem gV_R_law_157 : GoodIn gx_T (wsV R_law 157 RX6 yX6_longest (.code yX6_longest cX6_longest 4 (some .int) :: gx_T)) := gx_gV wd_789 wd_790 wd_791 wd_69 wd_792
theorem gV_R_law_160 : GoodIn gx_T (wsV R_law 160 RX7 yX7_longest (.code yX7_longest cX7_longest 11 (some .int) :: gx_T)) := gx_gV wd_1369 wd_1370 wd_1371 wd_75 wd_1372
theorem gV_R_law_161 : GoodIn gx_T (wsV R_law 161 RX6 yX6_errands (.code yX6_errands cX6_errands 4 (some .int) :: gx_T)) := gx_gV wd_828 wd_829 wd_830 wd_69 wd_831
theorem gV_R_law_164 : GoodIn gx_T (wsV R_law 164 RX7 yX7_errands (.code yX7_errands cX7_errands 4 (some .int) :: gx_T)) := gx_gV wd_1377 wd_1378 wd_1379 wd_75 wd_1380
theorem gV_R_law_165 : GoodIn gx_T (wsV R_law 165 RX6 yX6_cut (.code yX6_cut cX6_cut 4 (some .int) :: gx_T)) := gx_gV wd_841 wd_842 wd_843 wd_69 wd_844
theorem gV_R_law_168 : GoodIn gx_T (wsV R_law 168 RX7 yX7_cut (.code yX7_cut cX7_cut 4 (some .int) :: gx_T)) := gx_gV wd_1393 wd_1394 wd_1395 wd_75 wd_1396
theorem gV_R_law_169 : GoodIn gx_T (wsV R_law 169 RX6 yX6_meets (.code yX6_meets cX6_meets 6 (some .int) :: gx_T)) := gx_gV wd_846 wd_847 wd_848 wd_69 wd_849
theorem gV_R_law_172 : GoodIn gx_T (wsV R_law 172 RX7 yX7_meets (.code yX7_meets cX7_meets 14 (some .int) :: gx_T)) := gx_gV wd_1397 wd_1398 wd_1399 wd_75 wd_1400
theorem gV_R_law_173 : GoodIn gx_T (wsV R_law 173 RX6 yX6_near (.code yX6_near cX6_near 3 (some .int) :: gx_T)) := gx_gV wd_854 wd_855 wd_856 wd_69 wd_857
theorem gV_R_law_176 : GoodIn gx_T (wsV R_law 176 RX7 yX7_near (.code yX7_near cX7_near 3 (some .int) :: gx_T)) := gx_gV wd_1405 wd_1406 wd_1407 wd_75 wd_1408
theorem gV_R_law_177 : GoodIn gx_T (wsV R_law 177 RX6 yX6_together (.code yX6_together cX6_together 5 (some .int) :: gx_T)) := gx_gV wd_865 wd_866 wd_867 wd_69 wd_868
theorem gV_R_law_180 : GoodIn gx_T (wsV R_law 180 RX7 yX7_together (.code yX7_together cX7_together 7 (some .int) :: gx_T)) := gx_gV wd_1414 wd_1415 wd_1416 wd_75 wd_1417
theorem gV_R_law_181 : GoodIn gx_T (wsV R_law 181 RX6 yX6_frees (.code yX6_frees cX6_frees 2 (some .int) :: gx_T)) := gx_gV wd_873 wd_874 wd_875 wd_69 wd_876
theorem gV_R_law_184 : GoodIn gx_T (wsV R_law 184 RX7 yX7_frees (.code yX7_frees cX7_frees 2 (some .int) :: gx_T)) := gx_gV wd_1418 wd_1419 wd_1420 wd_75 wd_1421
theorem dL_law_1345 : decode code 1345 = .ok (.aload_n 1, 1) := by decide +kernel
theorem dL_law_1346 : decode code 1346 = .ok (.aload_n 0, 1) := by decide +kernel
theorem dL_law_1347 : decode code 1347 = .ok (.iload_n 3, 1) := by decide +kernel
theorem dL_law_1348 : decode code 1348 = .ok (.iconst 1, 1) := by decide +kernel
theorem dL_law_1349 : decode code 1349 = .ok (.iadd, 1) := by decide +kernel
theorem dL_law_1350 : decode code 1350 = .ok (.iaload, 1) := by decide +kernel
theorem dL_law_1351 : decode code 1351 = .ok (.invokevirtual 153, 3) := by decide +kernel
theorem dL_law_1354 : decode code 1354 = .ok (.aload_n 2, 1) := by decide +kernel
theorem dL_law_1355 : decode code 1355 = .ok (.aload_n 0, 1) := by decide +kernel
theorem dL_law_1356 : decode code 1356 = .ok (.iload_n 3, 1) := by decide +kernel
theorem dL_law_1357 : decode code 1357 = .ok (.iconst 1, 1) := by decide +kernel
theorem dL_law_1358 : decode code 1358 = .ok (.iadd, 1) := by decide +kernel
theorem dL_law_1359 : decode code 1359 = .ok (.iaload, 1) := by decide +kernel
theorem dL_law_1360 : decode code 1360 = .ok (.invokevirtual 156, 3) := by decide +kernel
theorem dL_law_1363 : decode code 1363 = .ok (.if_icmp .eq 443, 3) := by decide +kernel
theorem dL_law_1368 : decode code 1368 = .ok (.aload_n 1, 1) := by decide +kernel
theorem dL_law_1369 : decode code 1369 = .ok (.aload_n 0, 1) := by decide +kernel
theorem dL_law_1370 : decode code 1370 = .ok (.iload_n 3, 1) := by decide +kernel
theorem dL_law_1371 : decode code 1371 = .ok (.iconst 1, 1) := by decide +kernel
theorem dL_law_1372 : decode code 1372 = .ok (.iadd, 1) := by decide +kernel
theorem dL_law_1373 : decode code 1373 = .ok (.iaload, 1) := by decide +kernel
theorem dL_law_1374 : decode code 1374 = .ok (.aload_n 0, 1) := by decide +kernel
theorem dL_law_1375 : decode code 1375 = .ok (.iload_n 3, 1) := by decide +kernel
theorem dL_law_1376 : decode code 1376 = .ok (.iconst 2, 1) := by decide +kernel
theorem dL_law_1377 : decode code 1377 = .ok (.iadd, 1) := by decide +kernel
theorem dL_law_1378 : decode code 1378 = .ok (.iaload, 1) := by decide +kernel
theorem dL_law_1379 : decode code 1379 = .ok (.invokevirtual 157, 3) := by decide +kernel
theorem dL_law_1382 : decode code 1382 = .ok (.aload_n 2, 1) := by decide +kernel
theorem dL_law_1383 : decode code 1383 = .ok (.aload_n 0, 1) := by decide +kernel
theorem dL_law_1384 : decode code 1384 = .ok (.iload_n 3, 1) := by decide +kernel
theorem dL_law_1385 : decode code 1385 = .ok (.iconst 1, 1) := by decide +kernel
theorem dL_law_1386 : decode code 1386 = .ok (.iadd, 1) := by decide +kernel
theorem dL_law_1387 : decode code 1387 = .ok (.iaload, 1) := by decide +kernel
theorem dL_law_1388 : decode code 1388 = .ok (.aload_n 0, 1) := by decide +kernel
theorem dL_law_1389 : decode code 1389 = .ok (.iload_n 3, 1) := by decide +kernel
theorem dL_law_1390 : decode code 1390 = .ok (.iconst 2, 1) := by decide +kernel
theorem dL_law_1391 : decode code 1391 = .ok (.iadd, 1) := by decide +kernel
theorem dL_law_1392 : decode code 1392 = .ok (.iaload, 1) := by decide +kernel
theorem dL_law_1393 : decode code 1393 = .ok (.invokevirtual 160, 3) := by decide +kernel
theorem dL_law_1396 : decode code 1396 = .ok (.if_icmp .eq 410, 3) := by decide +kernel
theorem dL_law_1401 : decode code 1401 = .ok (.aload_n 1, 1) := by decide +kernel
theorem dL_law_1402 : decode code 1402 = .ok (.aload_n 0, 1) := by decide +kernel
theorem dL_law_1403 : decode code 1403 = .ok (.iload_n 3, 1) := by decide +kernel
theorem dL_law_1404 : decode code 1404 = .ok (.iconst 1, 1) := by decide +kernel
theorem dL_law_1405 : decode code 1405 = .ok (.iadd, 1) := by decide +kernel
theorem dL_law_1406 : decode code 1406 = .ok (.iaload, 1) := by decide +kernel
theorem dL_law_1407 : decode code 1407 = .ok (.aload_n 0, 1) := by decide +kernel
theorem dL_law_1408 : decode code 1408 = .ok (.iload_n 3, 1) := by decide +kernel
theorem dL_law_1409 : decode code 1409 = .ok (.iconst 2, 1) := by decide +kernel
theorem dL_law_1410 : decode code 1410 = .ok (.iadd, 1) := by decide +kernel
theorem dL_law_1411 : decode code 1411 = .ok (.iaload, 1) := by decide +kernel
theorem dL_law_1412 : decode code 1412 = .ok (.aload_n 0, 1) := by decide +kernel
theorem dL_law_1413 : decode code 1413 = .ok (.iload_n 3, 1) := by decide +kernel
theorem dL_law_1414 : decode code 1414 = .ok (.iconst 3, 1) := by decide +kernel
theorem dL_law_1415 : decode code 1415 = .ok (.iadd, 1) := by decide +kernel
theorem dL_law_1416 : decode code 1416 = .ok (.iaload, 1) := by decide +kernel
theorem dL_law_1417 : decode code 1417 = .ok (.invokevirtual 161, 3) := by decide +kernel
theorem dL_law_1420 : decode code 1420 = .ok (.aload_n 2, 1) := by decide +kernel
theorem dL_law_1421 : decode code 1421 = .ok (.aload_n 0, 1) := by decide +kernel
theorem dL_law_1422 : decode code 1422 = .ok (.iload_n 3, 1) := by decide +kernel
theorem dL_law_1423 : decode code 1423 = .ok (.iconst 1, 1) := by decide +kernel
theorem dL_law_1424 : decode code 1424 = .ok (.iadd, 1) := by decide +kernel
theorem dL_law_1425 : decode code 1425 = .ok (.iaload, 1) := by decide +kernel
theorem dL_law_1426 : decode code 1426 = .ok (.aload_n 0, 1) := by decide +kernel
theorem dL_law_1427 : decode code 1427 = .ok (.iload_n 3, 1) := by decide +kernel
theorem dL_law_1428 : decode code 1428 = .ok (.iconst 2, 1) := by decide +kernel
theorem dL_law_1429 : decode code 1429 = .ok (.iadd, 1) := by decide +kernel
theorem dL_law_1430 : decode code 1430 = .ok (.iaload, 1) := by decide +kernel
theorem dL_law_1431 : decode code 1431 = .ok (.aload_n 0, 1) := by decide +kernel
theorem dL_law_1432 : decode code 1432 = .ok (.iload_n 3, 1) := by decide +kernel
theorem dL_law_1433 : decode code 1433 = .ok (.iconst 3, 1) := by decide +kernel
theorem dL_law_1434 : decode code 1434 = .ok (.iadd, 1) := by decide +kernel
theorem dL_law_1435 : decode code 1435 = .ok (.iaload, 1) := by decide +kernel
theorem dL_law_1436 : decode code 1436 = .ok (.invokevirtual 164, 3) := by decide +kernel
theorem dL_law_1439 : decode code 1439 = .ok (.if_icmp .eq 367, 3) := by decide +kernel
theorem dL_law_1444 : decode code 1444 = .ok (.aload_n 1, 1) := by decide +kernel
theorem dL_law_1445 : decode code 1445 = .ok (.aload_n 0, 1) := by decide +kernel
theorem dL_law_1446 : decode code 1446 = .ok (.iload_n 3, 1) := by decide +kernel
theorem dL_law_1447 : decode code 1447 = .ok (.iconst 1, 1) := by decide +kernel
theorem dL_law_1448 : decode code 1448 = .ok (.iadd, 1) := by decide +kernel
theorem dL_law_1449 : decode code 1449 = .ok (.iaload, 1) := by decide +kernel
theorem dL_law_1450 : decode code 1450 = .ok (.aload_n 0, 1) := by decide +kernel
theorem dL_law_1451 : decode code 1451 = .ok (.iload_n 3, 1) := by decide +kernel
theorem dL_law_1452 : decode code 1452 = .ok (.iconst 2, 1) := by decide +kernel
theorem dL_law_1453 : decode code 1453 = .ok (.iadd, 1) := by decide +kernel
theorem dL_law_1454 : decode code 1454 = .ok (.iaload, 1) := by decide +kernel
theorem dL_law_1455 : decode code 1455 = .ok (.aload_n 0, 1) := by decide +kernel
theorem dL_law_1456 : decode code 1456 = .ok (.iload_n 3, 1) := by decide +kernel
theorem dL_law_1457 : decode code 1457 = .ok (.iconst 3, 1) := by decide +kernel
theorem dL_law_1458 : decode code 1458 = .ok (.iadd, 1) := by decide +kernel
theorem dL_law_1459 : decode code 1459 = .ok (.iaload, 1) := by decide +kernel
theorem dL_law_1460 : decode code 1460 = .ok (.invokevirtual 165, 3) := by decide +kernel
theorem dL_law_1463 : decode code 1463 = .ok (.aload_n 2, 1) := by decide +kernel
theorem dL_law_1464 : decode code 1464 = .ok (.aload_n 0, 1) := by decide +kernel
theorem dL_law_1465 : decode code 1465 = .ok (.iload_n 3, 1) := by decide +kernel
theorem dL_law_1466 : decode code 1466 = .ok (.iconst 1, 1) := by decide +kernel
theorem dL_law_1467 : decode code 1467 = .ok (.iadd, 1) := by decide +kernel
theorem dL_law_1468 : decode code 1468 = .ok (.iaload, 1) := by decide +kernel
theorem dL_law_1469 : decode code 1469 = .ok (.aload_n 0, 1) := by decide +kernel
theorem dL_law_1470 : decode code 1470 = .ok (.iload_n 3, 1) := by decide +kernel
theorem dL_law_1471 : decode code 1471 = .ok (.iconst 2, 1) := by decide +kernel
theorem dL_law_1472 : decode code 1472 = .ok (.iadd, 1) := by decide +kernel
theorem dL_law_1473 : decode code 1473 = .ok (.iaload, 1) := by decide +kernel
theorem dL_law_1474 : decode code 1474 = .ok (.aload_n 0, 1) := by decide +kernel
theorem dL_law_1475 : decode code 1475 = .ok (.iload_n 3, 1) := by decide +kernel
theorem dL_law_1476 : decode code 1476 = .ok (.iconst 3, 1) := by decide +kernel
theorem dL_law_1477 : decode code 1477 = .ok (.iadd, 1) := by decide +kernel
theorem dL_law_1478 : decode code 1478 = .ok (.iaload, 1) := by decide +kernel
theorem dL_law_1479 : decode code 1479 = .ok (.invokevirtual 168, 3) := by decide +kernel
theorem dL_law_1482 : decode code 1482 = .ok (.if_icmp .eq 324, 3) := by decide +kernel
theorem dL_law_1487 : decode code 1487 = .ok (.aload_n 1, 1) := by decide +kernel
theorem dL_law_1488 : decode code 1488 = .ok (.aload_n 0, 1) := by decide +kernel
theorem dL_law_1489 : decode code 1489 = .ok (.iload_n 3, 1) := by decide +kernel
theorem dL_law_1490 : decode code 1490 = .ok (.iconst 1, 1) := by decide +kernel
theorem dL_law_1491 : decode code 1491 = .ok (.iadd, 1) := by decide +kernel
theorem dL_law_1492 : decode code 1492 = .ok (.iaload, 1) := by decide +kernel
theorem dL_law_1493 : decode code 1493 = .ok (.aload_n 0, 1) := by decide +kernel
theorem dL_law_1494 : decode code 1494 = .ok (.iload_n 3, 1) := by decide +kernel
theorem dL_law_1495 : decode code 1495 = .ok (.iconst 2, 1) := by decide +kernel
theorem dL_law_1496 : decode code 1496 = .ok (.iadd, 1) := by decide +kernel
theorem dL_law_1497 : decode code 1497 = .ok (.iaload, 1) := by decide +kernel
theorem dL_law_1498 : decode code 1498 = .ok (.aload_n 0, 1) := by decide +kernel
theorem dL_law_1499 : decode code 1499 = .ok (.iload_n 3, 1) := by decide +kernel
theorem dL_law_1500 : decode code 1500 = .ok (.iconst 3, 1) := by decide +kernel
theorem dL_law_1501 : decode code 1501 = .ok (.iadd, 1) := by decide +kernel
theorem dL_law_1502 : decode code 1502 = .ok (.iaload, 1) := by decide +kernel
theorem dL_law_1503 : decode code 1503 = .ok (.invokevirtual 169, 3) := by decide +kernel
theorem dL_law_1506 : decode code 1506 = .ok (.aload_n 2, 1) := by decide +kernel
theorem dL_law_1507 : decode code 1507 = .ok (.aload_n 0, 1) := by decide +kernel
theorem dL_law_1508 : decode code 1508 = .ok (.iload_n 3, 1) := by decide +kernel
theorem dL_law_1509 : decode code 1509 = .ok (.iconst 1, 1) := by decide +kernel
theorem dL_law_1510 : decode code 1510 = .ok (.iadd, 1) := by decide +kernel
theorem dL_law_1511 : decode code 1511 = .ok (.iaload, 1) := by decide +kernel
theorem dL_law_1512 : decode code 1512 = .ok (.aload_n 0, 1) := by decide +kernel
theorem dL_law_1513 : decode code 1513 = .ok (.iload_n 3, 1) := by decide +kernel
theorem dL_law_1514 : decode code 1514 = .ok (.iconst 2, 1) := by decide +kernel
theorem dL_law_1515 : decode code 1515 = .ok (.iadd, 1) := by decide +kernel
theorem dL_law_1516 : decode code 1516 = .ok (.iaload, 1) := by decide +kernel
theorem dL_law_1517 : decode code 1517 = .ok (.aload_n 0, 1) := by decide +kernel
theorem dL_law_1518 : decode code 1518 = .ok (.iload_n 3, 1) := by decide +kernel
theorem dL_law_1519 : decode code 1519 = .ok (.iconst 3, 1) := by decide +kernel
theorem dL_law_1520 : decode code 1520 = .ok (.iadd, 1) := by decide +kernel
theorem dL_law_1521 : decode code 1521 = .ok (.iaload, 1) := by decide +kernel
theorem dL_law_1522 : decode code 1522 = .ok (.invokevirtual 172, 3) := by decide +kernel
theorem dL_law_1525 : decode code 1525 = .ok (.if_icmp .eq 281, 3) := by decide +kernel
theorem dL_law_1530 : decode code 1530 = .ok (.aload_n 1, 1) := by decide +kernel
theorem dL_law_1531 : decode code 1531 = .ok (.aload_n 0, 1) := by decide +kernel
theorem dL_law_1532 : decode code 1532 = .ok (.iload_n 3, 1) := by decide +kernel
theorem dL_law_1533 : decode code 1533 = .ok (.iconst 1, 1) := by decide +kernel
theorem dL_law_1534 : decode code 1534 = .ok (.iadd, 1) := by decide +kernel
theorem dL_law_1535 : decode code 1535 = .ok (.iaload, 1) := by decide +kernel
theorem dL_law_1536 : decode code 1536 = .ok (.aload_n 0, 1) := by decide +kernel
theorem dL_law_1537 : decode code 1537 = .ok (.iload_n 3, 1) := by decide +kernel
theorem dL_law_1538 : decode code 1538 = .ok (.iconst 2, 1) := by decide +kernel
theorem dL_law_1539 : decode code 1539 = .ok (.iadd, 1) := by decide +kernel
theorem dL_law_1540 : decode code 1540 = .ok (.iaload, 1) := by decide +kernel
theorem dL_law_1541 : decode code 1541 = .ok (.invokevirtual 173, 3) := by decide +kernel
theorem dL_law_1544 : decode code 1544 = .ok (.aload_n 2, 1) := by decide +kernel
theorem dL_law_1545 : decode code 1545 = .ok (.aload_n 0, 1) := by decide +kernel
theorem dL_law_1546 : decode code 1546 = .ok (.iload_n 3, 1) := by decide +kernel
theorem dL_law_1547 : decode code 1547 = .ok (.iconst 1, 1) := by decide +kernel
theorem dL_law_1548 : decode code 1548 = .ok (.iadd, 1) := by decide +kernel
theorem dL_law_1549 : decode code 1549 = .ok (.iaload, 1) := by decide +kernel
theorem dL_law_1550 : decode code 1550 = .ok (.aload_n 0, 1) := by decide +kernel
theorem dL_law_1551 : decode code 1551 = .ok (.iload_n 3, 1) := by decide +kernel
theorem dL_law_1552 : decode code 1552 = .ok (.iconst 2, 1) := by decide +kernel
theorem dL_law_1553 : decode code 1553 = .ok (.iadd, 1) := by decide +kernel
theorem dL_law_1554 : decode code 1554 = .ok (.iaload, 1) := by decide +kernel
theorem dL_law_1555 : decode code 1555 = .ok (.invokevirtual 176, 3) := by decide +kernel
theorem dL_law_1558 : decode code 1558 = .ok (.if_icmp .eq 248, 3) := by decide +kernel
theorem dL_law_1563 : decode code 1563 = .ok (.aload_n 1, 1) := by decide +kernel
theorem dL_law_1564 : decode code 1564 = .ok (.aload_n 0, 1) := by decide +kernel
theorem dL_law_1565 : decode code 1565 = .ok (.iload_n 3, 1) := by decide +kernel
theorem dL_law_1566 : decode code 1566 = .ok (.iconst 1, 1) := by decide +kernel
theorem dL_law_1567 : decode code 1567 = .ok (.iadd, 1) := by decide +kernel
theorem dL_law_1568 : decode code 1568 = .ok (.iaload, 1) := by decide +kernel
theorem dL_law_1569 : decode code 1569 = .ok (.aload_n 0, 1) := by decide +kernel
theorem dL_law_1570 : decode code 1570 = .ok (.iload_n 3, 1) := by decide +kernel
theorem dL_law_1571 : decode code 1571 = .ok (.iconst 2, 1) := by decide +kernel
theorem dL_law_1572 : decode code 1572 = .ok (.iadd, 1) := by decide +kernel
theorem dL_law_1573 : decode code 1573 = .ok (.iaload, 1) := by decide +kernel
theorem dL_law_1574 : decode code 1574 = .ok (.aload_n 0, 1) := by decide +kernel
theorem dL_law_1575 : decode code 1575 = .ok (.iload_n 3, 1) := by decide +kernel
theorem dL_law_1576 : decode code 1576 = .ok (.iconst 3, 1) := by decide +kernel
theorem dL_law_1577 : decode code 1577 = .ok (.iadd, 1) := by decide +kernel
theorem dL_law_1578 : decode code 1578 = .ok (.iaload, 1) := by decide +kernel
theorem dL_law_1579 : decode code 1579 = .ok (.invokevirtual 177, 3) := by decide +kernel
theorem dL_law_1582 : decode code 1582 = .ok (.aload_n 2, 1) := by decide +kernel
theorem dL_law_1583 : decode code 1583 = .ok (.aload_n 0, 1) := by decide +kernel
theorem dL_law_1584 : decode code 1584 = .ok (.iload_n 3, 1) := by decide +kernel
theorem dL_law_1585 : decode code 1585 = .ok (.iconst 1, 1) := by decide +kernel
theorem dL_law_1586 : decode code 1586 = .ok (.iadd, 1) := by decide +kernel
theorem dL_law_1587 : decode code 1587 = .ok (.iaload, 1) := by decide +kernel
theorem dL_law_1588 : decode code 1588 = .ok (.aload_n 0, 1) := by decide +kernel
theorem dL_law_1589 : decode code 1589 = .ok (.iload_n 3, 1) := by decide +kernel
theorem dL_law_1590 : decode code 1590 = .ok (.iconst 2, 1) := by decide +kernel
theorem dL_law_1591 : decode code 1591 = .ok (.iadd, 1) := by decide +kernel
theorem dL_law_1592 : decode code 1592 = .ok (.iaload, 1) := by decide +kernel
theorem dL_law_1593 : decode code 1593 = .ok (.aload_n 0, 1) := by decide +kernel
theorem dL_law_1594 : decode code 1594 = .ok (.iload_n 3, 1) := by decide +kernel
theorem dL_law_1595 : decode code 1595 = .ok (.iconst 3, 1) := by decide +kernel
theorem dL_law_1596 : decode code 1596 = .ok (.iadd, 1) := by decide +kernel
theorem dL_law_1597 : decode code 1597 = .ok (.iaload, 1) := by decide +kernel
theorem dL_law_1598 : decode code 1598 = .ok (.invokevirtual 180, 3) := by decide +kernel
theorem dL_law_1601 : decode code 1601 = .ok (.if_icmp .eq 205, 3) := by decide +kernel
theorem dL_law_1606 : decode code 1606 = .ok (.aload_n 1, 1) := by decide +kernel
theorem dL_law_1607 : decode code 1607 = .ok (.aload_n 0, 1) := by decide +kernel
theorem dL_law_1608 : decode code 1608 = .ok (.iload_n 3, 1) := by decide +kernel
theorem dL_law_1609 : decode code 1609 = .ok (.iconst 1, 1) := by decide +kernel
theorem dL_law_1610 : decode code 1610 = .ok (.iadd, 1) := by decide +kernel
theorem dL_law_1611 : decode code 1611 = .ok (.iaload, 1) := by decide +kernel
theorem dL_law_1612 : decode code 1612 = .ok (.invokevirtual 181, 3) := by decide +kernel
theorem dL_law_1615 : decode code 1615 = .ok (.aload_n 2, 1) := by decide +kernel
theorem dL_law_1616 : decode code 1616 = .ok (.aload_n 0, 1) := by decide +kernel
theorem dL_law_1617 : decode code 1617 = .ok (.iload_n 3, 1) := by decide +kernel
theorem dL_law_1618 : decode code 1618 = .ok (.iconst 1, 1) := by decide +kernel
theorem dL_law_1619 : decode code 1619 = .ok (.iadd, 1) := by decide +kernel
theorem dL_law_1620 : decode code 1620 = .ok (.iaload, 1) := by decide +kernel
theorem dL_law_1621 : decode code 1621 = .ok (.invokevirtual 184, 3) := by decide +kernel
theorem dL_law_1624 : decode code 1624 = .ok (.if_icmp .eq 182, 3) := by decide +kernel
set_option maxHeartbeats 4000000 in
set_option maxRecDepth 100000 in
theorem lc_lacks {p : Program} {l : Launch} {e : Env} {s : State} {m : MethodId} {below : List Frame} {meth : Method} {c : Code} {b : Nat} {xs : Nat → Int32} {D : va_G} {k : Nat → ClassId} {A : Nat → Prop} (C0 : lc_C p s m meth c b xs D k A) (ad : Nat → Nat) (hm : Nat) (am : Nat → Nat) (H : Heap) (locs : List Loc) (ls : Array Slot) (hP : va_P D gx_cl [((ad 0), .inr (4, [.ref (ad 1), .ref (ad 2), .ref (ad 3), .ref (ad 4), .ref (ad 5), .ref (ad 6), .ref (ad 7), .ref (ad 8), .ref (ad 9), .int 0])), ((ad 1), .inr (0, [.ref (ad 10), .ref (ad 11), .ref (ad 12), .ref (ad 13), .ref (ad 14), .ref (ad 15), .ref (ad 16), .ref (ad 17), .ref (ad 18), .int 0, .int 0, .int 0, .int 0, .int 1, .int 0, .int 0, .int 0])), ((ad 9), .inl (k 0, 5, .inl (fun _ => 0))), (hm, .inr (5, [.ref (am 1), .ref (am 2), .ref (am 3), .ref (am 4), .ref (am 5), .ref (am 6), .ref (am 7), .ref (am 8), .int 0, .ref (am 9), .int 0, .ref (am 10), .int 0, .ref (am 11), .ref (am 12), .int 0, .int 0, .int 1, .null, .null, .int 0, .int 0, .int 0, .long 0, .int 0, .ref (am 13), .int 0, .int 0, .int 0, .ref (am 14), .ref (am 15), .ref (am 16), .ref (am 17), .int 0, .ref (am 18), .ref (am 19), .ref (am 20)])), ((am 9), .inl (k 0, 8, .inl (fun _ => 0)))] H) (hD : va_D A [((ad 0), .inr (4, [.ref (ad 1), .ref (ad 2), .ref (ad 3), .ref (ad 4), .ref (ad 5), .ref (ad 6), .ref (ad 7), .ref (ad 8), .ref (ad 9), .int 0])), ((ad 1), .inr (0, [.ref (ad 10), .ref (ad 11), .ref (ad 12), .ref (ad 13), .ref (ad 14), .ref (ad 15), .ref (ad 16), .ref (ad 17), .ref (ad 18), .int 0, .int 0, .int 0, .int 0, .int 1, .int 0, .int 0, .int 0])), ((ad 9), .inl (k 0, 5, .inl (fun _ => 0))), (hm, .inr (5, [.ref (am 1), .ref (am 2), .ref (am 3), .ref (am 4), .ref (am 5), .ref (am 6), .ref (am 7), .ref (am 8), .int 0, .ref (am 9), .int 0, .ref (am 10), .int 0, .ref (am 11), .ref (am 12), .int 0, .int 0, .int 1, .null, .null, .int 0, .int 0, .int 0, .long 0, .int 0, .ref (am 13), .int 0, .int 0, .int 0, .ref (am 14), .ref (am 15), .ref (am 16), .ref (am 17), .int 0, .ref (am 18), .ref (am 19), .ref (am 20)])), ((am 9), .inl (k 0, 8, .inl (fun _ => 0)))]) (hS : va_S A s.heap H locs) (hl : lv_has ls 4 [(3, .int 0), (2, .ref hm), (1, .ref (ad 0)), (0, .ref b)]) : W p l e room_1 s m #[Value.ref b] below meth c H locs 1140 19699 (lw_Z below #[Value.ref b] s) (F0 m 1345 ls []) := by
  obtain ⟨C, hK, hX, hbl, hA, hA2, hbA⟩ := id C0
  obtain ⟨hx, hb, hr, hml, hown, hT, hlk, -⟩ := id C
  refine lv_aload_n hx hb dL_law_1345 rfl (lv_at hl 2 rfl) ?_
  refine lv_aload_n hx hb dL_law_1346 rfl (lv_at hl 3 rfl) ?_
  refine lv_iload_n hx hb dL_law_1347 rfl (lv_at hl 0 rfl) ?_
  refine lv_iconst (v := 1) hx hb dL_law_1348 (by decide) ?_
  refine lv_iadd hx hb dL_law_1349 ?_
  refine gx_cst (v := 1) (by decide) ?_
  refine va_sld hx hb hX hbl hbA hS (gx_vin rfl) dL_law_1350 ?_
  refine gx_cst (v := (xs 1)) rfl ?_
  refine gx_ei (wc := ([((ad 0), .inr (4, [.ref (ad 1), .ref (ad 2), .ref (ad 3), .ref (ad 4), .ref (ad 5), .ref (ad 6), .ref (ad 7), .ref (ad 8), .ref (ad 9), .int 0])), ((ad 1), .inr (0, [.ref (ad 10), .ref (ad 11), .ref (ad 12), .ref (ad 13), .ref (ad 14), .ref (ad 15), .ref (ad 16), .ref (ad 17), .ref (ad 18), .int 0, .int 0, .int 0, .int 0, .int 1, .int 0, .int 0, .int 0])), ((ad 9), .inl (k 0, 5, .inl (fun _ => 0)))] : va_W)) (wr := [(hm, .inr (5, [.ref (am 1), .ref (am 2), .ref (am 3), .ref (am 4), .ref (am 5), .ref (am 6), .ref (am 7), .ref (am 8), .int 0, .ref (am 9), .int 0, .ref (am 10), .int 0, .ref (am 11), .ref (am 12), .int 0, .int 0, .int 1, .null, .null, .int 0, .int 0, .int 0, .long 0, .int 0, .ref (am 13), .int 0, .int 0, .int 0, .ref (am 14), .ref (am 15), .ref (am 16), .ref (am 17), .int 0, .ref (am 18), .ref (am 19), .ref (am 20)])), ((am 9), .inl (k 0, 8, .inl (fun _ => 0)))]) (isC := [0, 1, 2]) (isR := [3, 4]) hP hD hS hA rfl rfl (by decide) (by decide) (gx_runV (na := 1) (As := [.int (xs 1)]) (rest := []) (ci := 4) C hl.1 hK (gx_subP (wc := ([((ad 0), .inr (4, [.ref (ad 1), .ref (ad 2), .ref (ad 3), .ref (ad 4), .ref (ad 5), .ref (ad 6), .ref (ad 7), .ref (ad 8), .ref (ad 9), .int 0])), ((ad 1), .inr (0, [.ref (ad 10), .ref (ad 11), .ref (ad 12), .ref (ad 13), .ref (ad 14), .ref (ad 15), .ref (ad 16), .ref (ad 17), .ref (ad 18), .int 0, .int 0, .int 0, .int 0, .int 1, .int 0, .int 0, .int 0])), ((ad 9), .inl (k 0, 5, .inl (fun _ => 0)))] : va_W)) hP [0, 1, 2] rfl) ((hD.sub (ws' := ([((ad 0), .inr (4, [.ref (ad 1), .ref (ad 2), .ref (ad 3), .ref (ad 4), .ref (ad 5), .ref (ad 6), .ref (ad 7), .ref (ad 8), .ref (ad 9), .int 0])), ((ad 1), .inr (0, [.ref (ad 10), .ref (ad 11), .ref (ad 12), .ref (ad 13), .ref (ad 14), .ref (ad 15), .ref (ad 16), .ref (ad 17), .ref (ad 18), .int 0, .int 0, .int 0, .int 0, .int 1, .int 0, .int 0, .int 0])), ((ad 9), .inl (k 0, 5, .inl (fun _ => 0)))] : va_W)) [0, 1, 2] (by decide) rfl).weaken (fun _ _ _ _ => trivial)) (x_lacks l D k ad (xs 1) _) gV_R_law_153 (by decide +kernel) rfl rfl ⟨Nat.le_of_ble_eq_true rfl, Nat.le_of_ble_eq_true rfl⟩ rfl rfl rfl rfl (Nat.le_of_ble_eq_true rfl) dL_law_1351 ⟨Nat.le_of_ble_eq_true rfl, Nat.le_of_ble_eq_true rfl⟩) (fun r_3 u_1 H locs h_2 hP hD hS => ?_)
  have h_2 : r_3 = -2 := h_2
  have hP : va_P D gx_cl [(hm, .inr (5, [.ref (am 1), .ref (am 2), .ref (am 3), .ref (am 4), .ref (am 5), .ref (am 6), .ref (am 7), .ref (am 8), .int 0, .ref (am 9), .int 0, .ref (am 10), .int 0, .ref (am 11), .ref (am 12), .int 0, .int 0, .int 1, .null, .null, .int 0, .int 0, .int 0, .long 0, .int 0, .ref (am 13), .int 0, .int 0, .int 0, .ref (am 14), .ref (am 15), .ref (am 16), .ref (am 17), .int 0, .ref (am 18), .ref (am 19), .ref (am 20)])), ((am 9), .inl (k 0, 8, .inl (fun _ => 0)))] H := hP
  have hD : va_D A [(hm, .inr (5, [.ref (am 1), .ref (am 2), .ref (am 3), .ref (am 4), .ref (am 5), .ref (am 6), .ref (am 7), .ref (am 8), .int 0, .ref (am 9), .int 0, .ref (am 10), .int 0, .ref (am 11), .ref (am 12), .int 0, .int 0, .int 1, .null, .null, .int 0, .int 0, .int 0, .long 0, .int 0, .ref (am 13), .int 0, .int 0, .int 0, .ref (am 14), .ref (am 15), .ref (am 16), .ref (am 17), .int 0, .ref (am 18), .ref (am 19), .ref (am 20)])), ((am 9), .inl (k 0, 8, .inl (fun _ => 0)))] := hD
  refine lv_aload_n hx hb dL_law_1354 rfl (lv_at hl 1 rfl) ?_
  refine lv_aload_n hx hb dL_law_1355 rfl (lv_at hl 3 rfl) ?_
  refine lv_iload_n hx hb dL_law_1356 rfl (lv_at hl 0 rfl) ?_
  refine lv_iconst (v := 1) hx hb dL_law_1357 (by decide) ?_
  refine lv_iadd hx hb dL_law_1358 ?_
  refine gx_cst (v := 1) (by decide) ?_
  refine va_sld hx hb hX hbl hbA hS (gx_vin rfl) dL_law_1359 ?_
  refine gx_cst (v := (xs 1)) rfl ?_
  refine gx_ei (wc := ([(hm, .inr (5, [.ref (am 1), .ref (am 2), .ref (am 3), .ref (am 4), .ref (am 5), .ref (am 6), .ref (am 7), .ref (am 8), .int 0, .ref (am 9), .int 0, .ref (am 10), .int 0, .ref (am 11), .ref (am 12), .int 0, .int 0, .int 1, .null, .null, .int 0, .int 0, .int 0, .long 0, .int 0, .ref (am 13), .int 0, .int 0, .int 0, .ref (am 14), .ref (am 15), .ref (am 16), .ref (am 17), .int 0, .ref (am 18), .ref (am 19), .ref (am 20)])), ((am 9), .inl (k 0, 8, .inl (fun _ => 0)))] : va_W)) (wr := []) (isC := [0, 1]) (isR := []) hP hD hS hA rfl rfl (by decide) (by decide) (gx_runV (na := 1) (As := [.int (xs 1)]) (rest := [.int r_3]) (ci := 5) C hl.1 hK (gx_subP (wc := ([(hm, .inr (5, [.ref (am 1), .ref (am 2), .ref (am 3), .ref (am 4), .ref (am 5), .ref (am 6), .ref (am 7), .ref (am 8), .int 0, .ref (am 9), .int 0, .ref (am 10), .int 0, .ref (am 11), .ref (am 12), .int 0, .int 0, .int 1, .null, .null, .int 0, .int 0, .int 0, .long 0, .int 0, .ref (am 13), .int 0, .int 0, .int 0, .ref (am 14), .ref (am 15), .ref (am 16), .ref (am 17), .int 0, .ref (am 18), .ref (am 19), .ref (am 20)])), ((am 9), .inl (k 0, 8, .inl (fun _ => 0)))] : va_W)) hP [0, 1] rfl) ((hD.sub (ws' := ([(hm, .inr (5, [.ref (am 1), .ref (am 2), .ref (am 3), .ref (am 4), .ref (am 5), .ref (am 6), .ref (am 7), .ref (am 8), .int 0, .ref (am 9), .int 0, .ref (am 10), .int 0, .ref (am 11), .ref (am 12), .int 0, .int 0, .int 1, .null, .null, .int 0, .int 0, .int 0, .long 0, .int 0, .ref (am 13), .int 0, .int 0, .int 0, .ref (am 14), .ref (am 15), .ref (am 16), .ref (am 17), .int 0, .ref (am 18), .ref (am 19), .ref (am 20)])), ((am 9), .inl (k 0, 8, .inl (fun _ => 0)))] : va_W)) [0, 1] (by decide) rfl).weaken (fun _ _ _ _ => trivial)) (m_lacks_pub l D k hm am (xs 1) _) gV_R_law_156 (by decide +kernel) rfl rfl ⟨Nat.le_of_ble_eq_true rfl, Nat.le_of_ble_eq_true rfl⟩ rfl rfl rfl rfl (Nat.le_of_ble_eq_true rfl) dL_law_1360 ⟨Nat.le_of_ble_eq_true rfl, Nat.le_of_ble_eq_true rfl⟩) (fun r_7 u_5 H locs h_6 hP hD hS => ?_)
  have h_6 : r_7 = -2 := h_6
  have hP : va_P D gx_cl [] H := hP
  have hD : va_D A [] := hD
  refine lv_icmp_eq (tgt := 1806) hx hb dL_law_1363 (by decide) (fun c_9 => ?_) (fun c_9 => absurd (h_2.trans h_6.symm) c_9)
  exact lc_next C0 hS (Nat.le_of_ble_eq_true rfl) (Nat.le_of_ble_eq_true rfl) (lv_sub hl [0, 3] rfl)
set_option maxHeartbeats 4000000 in
set_option maxRecDepth 100000 in
theorem lc_longest {p : Program} {l : Launch} {e : Env} {s : State} {m : MethodId} {below : List Frame} {meth : Method} {c : Code} {b : Nat} {xs : Nat → Int32} {D : va_G} {k : Nat → ClassId} {A : Nat → Prop} (C0 : lc_C p s m meth c b xs D k A) (ad : Nat → Nat) (hm : Nat) (am : Nat → Nat) (H : Heap) (locs : List Loc) (ls : Array Slot) (hP : va_P D gx_cl [((ad 0), .inr (4, [.ref (ad 1), .ref (ad 2), .ref (ad 3), .ref (ad 4), .ref (ad 5), .ref (ad 6), .ref (ad 7), .ref (ad 8), .ref (ad 9), .int 0])), ((ad 1), .inr (0, [.ref (ad 10), .ref (ad 11), .ref (ad 12), .ref (ad 13), .ref (ad 14), .ref (ad 15), .ref (ad 16), .ref (ad 17), .ref (ad 18), .int 0, .int 0, .int 0, .int 0, .int 1, .int 0, .int 0, .int 0])), ((ad 9), .inl (k 0, 5, .inl (fun _ => 0))), (hm, .inr (5, [.ref (am 1), .ref (am 2), .ref (am 3), .ref (am 4), .ref (am 5), .ref (am 6), .ref (am 7), .ref (am 8), .int 0, .ref (am 9), .int 0, .ref (am 10), .int 0, .ref (am 11), .ref (am 12), .int 0, .int 0, .int 1, .null, .null, .int 0, .int 0, .int 0, .long 0, .int 0, .ref (am 13), .int 0, .int 0, .int 0, .ref (am 14), .ref (am 15), .ref (am 16), .ref (am 17), .int 0, .ref (am 18), .ref (am 19), .ref (am 20)])), ((am 9), .inl (k 0, 8, .inl (fun _ => 0)))] H) (hD : va_D A [((ad 0), .inr (4, [.ref (ad 1), .ref (ad 2), .ref (ad 3), .ref (ad 4), .ref (ad 5), .ref (ad 6), .ref (ad 7), .ref (ad 8), .ref (ad 9), .int 0])), ((ad 1), .inr (0, [.ref (ad 10), .ref (ad 11), .ref (ad 12), .ref (ad 13), .ref (ad 14), .ref (ad 15), .ref (ad 16), .ref (ad 17), .ref (ad 18), .int 0, .int 0, .int 0, .int 0, .int 1, .int 0, .int 0, .int 0])), ((ad 9), .inl (k 0, 5, .inl (fun _ => 0))), (hm, .inr (5, [.ref (am 1), .ref (am 2), .ref (am 3), .ref (am 4), .ref (am 5), .ref (am 6), .ref (am 7), .ref (am 8), .int 0, .ref (am 9), .int 0, .ref (am 10), .int 0, .ref (am 11), .ref (am 12), .int 0, .int 0, .int 1, .null, .null, .int 0, .int 0, .int 0, .long 0, .int 0, .ref (am 13), .int 0, .int 0, .int 0, .ref (am 14), .ref (am 15), .ref (am 16), .ref (am 17), .int 0, .ref (am 18), .ref (am 19), .ref (am 20)])), ((am 9), .inl (k 0, 8, .inl (fun _ => 0)))]) (hS : va_S A s.heap H locs) (hl : lv_has ls 4 [(3, .int 0), (2, .ref hm), (1, .ref (ad 0)), (0, .ref b)]) : W p l e room_1 s m #[Value.ref b] below meth c H locs 1140 19699 (lw_Z below #[Value.ref b] s) (F0 m 1368 ls []) := by
  obtain ⟨C, hK, hX, hbl, hA, hA2, hbA⟩ := id C0
  obtain ⟨hx, hb, hr, hml, hown, hT, hlk, -⟩ := id C
  refine lv_aload_n hx hb dL_law_1368 rfl (lv_at hl 2 rfl) ?_
  refine lv_aload_n hx hb dL_law_1369 rfl (lv_at hl 3 rfl) ?_
  refine lv_iload_n hx hb dL_law_1370 rfl (lv_at hl 0 rfl) ?_
  refine lv_iconst (v := 1) hx hb dL_law_1371 (by decide) ?_
  refine lv_iadd hx hb dL_law_1372 ?_
  refine gx_cst (v := 1) (by decide) ?_
  refine va_sld hx hb hX hbl hbA hS (gx_vin rfl) dL_law_1373 ?_
  refine gx_cst (v := (xs 1)) rfl ?_
  refine lv_aload_n hx hb dL_law_1374 rfl (lv_at hl 3 rfl) ?_
  refine lv_iload_n hx hb dL_law_1375 rfl (lv_at hl 0 rfl) ?_
  refine lv_iconst (v := 2) hx hb dL_law_1376 (by decide) ?_
  refine lv_iadd hx hb dL_law_1377 ?_
  refine gx_cst (v := 2) (by decide) ?_
  refine va_sld hx hb hX hbl hbA hS (gx_vin rfl) dL_law_1378 ?_
  refine gx_cst (v := (xs 2)) rfl ?_
  refine gx_ei (wc := ([((ad 0), .inr (4, [.ref (ad 1), .ref (ad 2), .ref (ad 3), .ref (ad 4), .ref (ad 5), .ref (ad 6), .ref (ad 7), .ref (ad 8), .ref (ad 9), .int 0])), ((ad 1), .inr (0, [.ref (ad 10), .ref (ad 11), .ref (ad 12), .ref (ad 13), .ref (ad 14), .ref (ad 15), .ref (ad 16), .ref (ad 17), .ref (ad 18), .int 0, .int 0, .int 0, .int 0, .int 1, .int 0, .int 0, .int 0])), ((ad 9), .inl (k 0, 5, .inl (fun _ => 0)))] : va_W)) (wr := [(hm, .inr (5, [.ref (am 1), .ref (am 2), .ref (am 3), .ref (am 4), .ref (am 5), .ref (am 6), .ref (am 7), .ref (am 8), .int 0, .ref (am 9), .int 0, .ref (am 10), .int 0, .ref (am 11), .ref (am 12), .int 0, .int 0, .int 1, .null, .null, .int 0, .int 0, .int 0, .long 0, .int 0, .ref (am 13), .int 0, .int 0, .int 0, .ref (am 14), .ref (am 15), .ref (am 16), .ref (am 17), .int 0, .ref (am 18), .ref (am 19), .ref (am 20)])), ((am 9), .inl (k 0, 8, .inl (fun _ => 0)))]) (isC := [0, 1, 2]) (isR := [3, 4]) hP hD hS hA rfl rfl (by decide) (by decide) (gx_runV (na := 2) (As := [.int (xs 1), .int (xs 2)]) (rest := []) (ci := 4) C hl.1 hK (gx_subP (wc := ([((ad 0), .inr (4, [.ref (ad 1), .ref (ad 2), .ref (ad 3), .ref (ad 4), .ref (ad 5), .ref (ad 6), .ref (ad 7), .ref (ad 8), .ref (ad 9), .int 0])), ((ad 1), .inr (0, [.ref (ad 10), .ref (ad 11), .ref (ad 12), .ref (ad 13), .ref (ad 14), .ref (ad 15), .ref (ad 16), .ref (ad 17), .ref (ad 18), .int 0, .int 0, .int 0, .int 0, .int 1, .int 0, .int 0, .int 0])), ((ad 9), .inl (k 0, 5, .inl (fun _ => 0)))] : va_W)) hP [0, 1, 2] rfl) ((hD.sub (ws' := ([((ad 0), .inr (4, [.ref (ad 1), .ref (ad 2), .ref (ad 3), .ref (ad 4), .ref (ad 5), .ref (ad 6), .ref (ad 7), .ref (ad 8), .ref (ad 9), .int 0])), ((ad 1), .inr (0, [.ref (ad 10), .ref (ad 11), .ref (ad 12), .ref (ad 13), .ref (ad 14), .ref (ad 15), .ref (ad 16), .ref (ad 17), .ref (ad 18), .int 0, .int 0, .int 0, .int 0, .int 1, .int 0, .int 0, .int 0])), ((ad 9), .inl (k 0, 5, .inl (fun _ => 0)))] : va_W)) [0, 1, 2] (by decide) rfl).weaken (fun _ _ _ _ => trivial)) (x_longest l D k ad (xs 1) (xs 2) _) gV_R_law_157 (by decide +kernel) rfl rfl ⟨Nat.le_of_ble_eq_true rfl, Nat.le_of_ble_eq_true rfl⟩ rfl rfl rfl rfl (Nat.le_of_ble_eq_true rfl) dL_law_1379 ⟨Nat.le_of_ble_eq_true rfl, Nat.le_of_ble_eq_true rfl⟩) (fun r_3 u_1 H locs h_2 hP hD hS => ?_)
  have h_2 : r_3 = -2 := h_2
  have hP : va_P D gx_cl [(hm, .inr (5, [.ref (am 1), .ref (am 2), .ref (am 3), .ref (am 4), .ref (am 5), .ref (am 6), .ref (am 7), .ref (am 8), .int 0, .ref (am 9), .int 0, .ref (am 10), .int 0, .ref (am 11), .ref (am 12), .int 0, .int 0, .int 1, .null, .null, .int 0, .int 0, .int 0, .long 0, .int 0, .ref (am 13), .int 0, .int 0, .int 0, .ref (am 14), .ref (am 15), .ref (am 16), .ref (am 17), .int 0, .ref (am 18), .ref (am 19), .ref (am 20)])), ((am 9), .inl (k 0, 8, .inl (fun _ => 0)))] H := hP
  have hD : va_D A [(hm, .inr (5, [.ref (am 1), .ref (am 2), .ref (am 3), .ref (am 4), .ref (am 5), .ref (am 6), .ref (am 7), .ref (am 8), .int 0, .ref (am 9), .int 0, .ref (am 10), .int 0, .ref (am 11), .ref (am 12), .int 0, .int 0, .int 1, .null, .null, .int 0, .int 0, .int 0, .long 0, .int 0, .ref (am 13), .int 0, .int 0, .int 0, .ref (am 14), .ref (am 15), .ref (am 16), .ref (am 17), .int 0, .ref (am 18), .ref (am 19), .ref (am 20)])), ((am 9), .inl (k 0, 8, .inl (fun _ => 0)))] := hD
  refine lv_aload_n hx hb dL_law_1382 rfl (lv_at hl 1 rfl) ?_
  refine lv_aload_n hx hb dL_law_1383 rfl (lv_at hl 3 rfl) ?_
  refine lv_iload_n hx hb dL_law_1384 rfl (lv_at hl 0 rfl) ?_
  refine lv_iconst (v := 1) hx hb dL_law_1385 (by decide) ?_
  refine lv_iadd hx hb dL_law_1386 ?_
  refine gx_cst (v := 1) (by decide) ?_
  refine va_sld hx hb hX hbl hbA hS (gx_vin rfl) dL_law_1387 ?_
  refine gx_cst (v := (xs 1)) rfl ?_
  refine lv_aload_n hx hb dL_law_1388 rfl (lv_at hl 3 rfl) ?_
  refine lv_iload_n hx hb dL_law_1389 rfl (lv_at hl 0 rfl) ?_
  refine lv_iconst (v := 2) hx hb dL_law_1390 (by decide) ?_
  refine lv_iadd hx hb dL_law_1391 ?_
  refine gx_cst (v := 2) (by decide) ?_
  refine va_sld hx hb hX hbl hbA hS (gx_vin rfl) dL_law_1392 ?_
  refine gx_cst (v := (xs 2)) rfl ?_
  refine gx_ei (wc := ([(hm, .inr (5, [.ref (am 1), .ref (am 2), .ref (am 3), .ref (am 4), .ref (am 5), .ref (am 6), .ref (am 7), .ref (am 8), .int 0, .ref (am 9), .int 0, .ref (am 10), .int 0, .ref (am 11), .ref (am 12), .int 0, .int 0, .int 1, .null, .null, .int 0, .int 0, .int 0, .long 0, .int 0, .ref (am 13), .int 0, .int 0, .int 0, .ref (am 14), .ref (am 15), .ref (am 16), .ref (am 17), .int 0, .ref (am 18), .ref (am 19), .ref (am 20)])), ((am 9), .inl (k 0, 8, .inl (fun _ => 0)))] : va_W)) (wr := []) (isC := [0, 1]) (isR := []) hP hD hS hA rfl rfl (by decide) (by decide) (gx_runV (na := 2) (As := [.int (xs 1), .int (xs 2)]) (rest := [.int r_3]) (ci := 5) C hl.1 hK (gx_subP (wc := ([(hm, .inr (5, [.ref (am 1), .ref (am 2), .ref (am 3), .ref (am 4), .ref (am 5), .ref (am 6), .ref (am 7), .ref (am 8), .int 0, .ref (am 9), .int 0, .ref (am 10), .int 0, .ref (am 11), .ref (am 12), .int 0, .int 0, .int 1, .null, .null, .int 0, .int 0, .int 0, .long 0, .int 0, .ref (am 13), .int 0, .int 0, .int 0, .ref (am 14), .ref (am 15), .ref (am 16), .ref (am 17), .int 0, .ref (am 18), .ref (am 19), .ref (am 20)])), ((am 9), .inl (k 0, 8, .inl (fun _ => 0)))] : va_W)) hP [0, 1] rfl) ((hD.sub (ws' := ([(hm, .inr (5, [.ref (am 1), .ref (am 2), .ref (am 3), .ref (am 4), .ref (am 5), .ref (am 6), .ref (am 7), .ref (am 8), .int 0, .ref (am 9), .int 0, .ref (am 10), .int 0, .ref (am 11), .ref (am 12), .int 0, .int 0, .int 1, .null, .null, .int 0, .int 0, .int 0, .long 0, .int 0, .ref (am 13), .int 0, .int 0, .int 0, .ref (am 14), .ref (am 15), .ref (am 16), .ref (am 17), .int 0, .ref (am 18), .ref (am 19), .ref (am 20)])), ((am 9), .inl (k 0, 8, .inl (fun _ => 0)))] : va_W)) [0, 1] (by decide) rfl).weaken (fun _ _ _ _ => trivial)) (m_longest_pub l D k hm am (xs 1) (xs 2) _) gV_R_law_160 (by decide +kernel) rfl rfl ⟨Nat.le_of_ble_eq_true rfl, Nat.le_of_ble_eq_true rfl⟩ rfl rfl rfl rfl (Nat.le_of_ble_eq_true rfl) dL_law_1393 ⟨Nat.le_of_ble_eq_true rfl, Nat.le_of_ble_eq_true rfl⟩) (fun r_7 u_5 H locs h_6 hP hD hS => ?_)
  have h_6 : r_7 = -2 := h_6
  have hP : va_P D gx_cl [] H := hP
  have hD : va_D A [] := hD
  refine lv_icmp_eq (tgt := 1806) hx hb dL_law_1396 (by decide) (fun c_9 => ?_) (fun c_9 => absurd (h_2.trans h_6.symm) c_9)
  exact lc_next C0 hS (Nat.le_of_ble_eq_true rfl) (Nat.le_of_ble_eq_true rfl) (lv_sub hl [0, 3] rfl)
set_option maxHeartbeats 4000000 in
set_option maxRecDepth 100000 in
theorem lc_errands {p : Program} {l : Launch} {e : Env} {s : State} {m : MethodId} {below : List Frame} {meth : Method} {c : Code} {b : Nat} {xs : Nat → Int32} {D : va_G} {k : Nat → ClassId} {A : Nat → Prop} (C0 : lc_C p s m meth c b xs D k A) (ad : Nat → Nat) (hm : Nat) (am : Nat → Nat) (H : Heap) (locs : List Loc) (ls : Array Slot) (hP : va_P D gx_cl [((ad 0), .inr (4, [.ref (ad 1), .ref (ad 2), .ref (ad 3), .ref (ad 4), .ref (ad 5), .ref (ad 6), .ref (ad 7), .ref (ad 8), .ref (ad 9), .int 0])), ((ad 1), .inr (0, [.ref (ad 10), .ref (ad 11), .ref (ad 12), .ref (ad 13), .ref (ad 14), .ref (ad 15), .ref (ad 16), .ref (ad 17), .ref (ad 18), .int 0, .int 0, .int 0, .int 0, .int 1, .int 0, .int 0, .int 0])), ((ad 9), .inl (k 0, 5, .inl (fun _ => 0))), (hm, .inr (5, [.ref (am 1), .ref (am 2), .ref (am 3), .ref (am 4), .ref (am 5), .ref (am 6), .ref (am 7), .ref (am 8), .int 0, .ref (am 9), .int 0, .ref (am 10), .int 0, .ref (am 11), .ref (am 12), .int 0, .int 0, .int 1, .null, .null, .int 0, .int 0, .int 0, .long 0, .int 0, .ref (am 13), .int 0, .int 0, .int 0, .ref (am 14), .ref (am 15), .ref (am 16), .ref (am 17), .int 0, .ref (am 18), .ref (am 19), .ref (am 20)])), ((am 9), .inl (k 0, 8, .inl (fun _ => 0)))] H) (hD : va_D A [((ad 0), .inr (4, [.ref (ad 1), .ref (ad 2), .ref (ad 3), .ref (ad 4), .ref (ad 5), .ref (ad 6), .ref (ad 7), .ref (ad 8), .ref (ad 9), .int 0])), ((ad 1), .inr (0, [.ref (ad 10), .ref (ad 11), .ref (ad 12), .ref (ad 13), .ref (ad 14), .ref (ad 15), .ref (ad 16), .ref (ad 17), .ref (ad 18), .int 0, .int 0, .int 0, .int 0, .int 1, .int 0, .int 0, .int 0])), ((ad 9), .inl (k 0, 5, .inl (fun _ => 0))), (hm, .inr (5, [.ref (am 1), .ref (am 2), .ref (am 3), .ref (am 4), .ref (am 5), .ref (am 6), .ref (am 7), .ref (am 8), .int 0, .ref (am 9), .int 0, .ref (am 10), .int 0, .ref (am 11), .ref (am 12), .int 0, .int 0, .int 1, .null, .null, .int 0, .int 0, .int 0, .long 0, .int 0, .ref (am 13), .int 0, .int 0, .int 0, .ref (am 14), .ref (am 15), .ref (am 16), .ref (am 17), .int 0, .ref (am 18), .ref (am 19), .ref (am 20)])), ((am 9), .inl (k 0, 8, .inl (fun _ => 0)))]) (hS : va_S A s.heap H locs) (hl : lv_has ls 4 [(3, .int 0), (2, .ref hm), (1, .ref (ad 0)), (0, .ref b)]) : W p l e room_1 s m #[Value.ref b] below meth c H locs 1140 19699 (lw_Z below #[Value.ref b] s) (F0 m 1401 ls []) := by
  obtain ⟨C, hK, hX, hbl, hA, hA2, hbA⟩ := id C0
  obtain ⟨hx, hb, hr, hml, hown, hT, hlk, -⟩ := id C
  refine lv_aload_n hx hb dL_law_1401 rfl (lv_at hl 2 rfl) ?_
  refine lv_aload_n hx hb dL_law_1402 rfl (lv_at hl 3 rfl) ?_
  refine lv_iload_n hx hb dL_law_1403 rfl (lv_at hl 0 rfl) ?_
  refine lv_iconst (v := 1) hx hb dL_law_1404 (by decide) ?_
  refine lv_iadd hx hb dL_law_1405 ?_
  refine gx_cst (v := 1) (by decide) ?_
  refine va_sld hx hb hX hbl hbA hS (gx_vin rfl) dL_law_1406 ?_
  refine gx_cst (v := (xs 1)) rfl ?_
  refine lv_aload_n hx hb dL_law_1407 rfl (lv_at hl 3 rfl) ?_
  refine lv_iload_n hx hb dL_law_1408 rfl (lv_at hl 0 rfl) ?_
  refine lv_iconst (v := 2) hx hb dL_law_1409 (by decide) ?_
  refine lv_iadd hx hb dL_law_1410 ?_
  refine gx_cst (v := 2) (by decide) ?_
  refine va_sld hx hb hX hbl hbA hS (gx_vin rfl) dL_law_1411 ?_
  refine gx_cst (v := (xs 2)) rfl ?_
  refine lv_aload_n hx hb dL_law_1412 rfl (lv_at hl 3 rfl) ?_
  refine lv_iload_n hx hb dL_law_1413 rfl (lv_at hl 0 rfl) ?_
  refine lv_iconst (v := 3) hx hb dL_law_1414 (by decide) ?_
  refine lv_iadd hx hb dL_law_1415 ?_
  refine gx_cst (v := 3) (by decide) ?_
  refine va_sld hx hb hX hbl hbA hS (gx_vin rfl) dL_law_1416 ?_
  refine gx_cst (v := (xs 3)) rfl ?_
  refine gx_ei (wc := ([((ad 0), .inr (4, [.ref (ad 1), .ref (ad 2), .ref (ad 3), .ref (ad 4), .ref (ad 5), .ref (ad 6), .ref (ad 7), .ref (ad 8), .ref (ad 9), .int 0])), ((ad 1), .inr (0, [.ref (ad 10), .ref (ad 11), .ref (ad 12), .ref (ad 13), .ref (ad 14), .ref (ad 15), .ref (ad 16), .ref (ad 17), .ref (ad 18), .int 0, .int 0, .int 0, .int 0, .int 1, .int 0, .int 0, .int 0])), ((ad 9), .inl (k 0, 5, .inl (fun _ => 0)))] : va_W)) (wr := [(hm, .inr (5, [.ref (am 1), .ref (am 2), .ref (am 3), .ref (am 4), .ref (am 5), .ref (am 6), .ref (am 7), .ref (am 8), .int 0, .ref (am 9), .int 0, .ref (am 10), .int 0, .ref (am 11), .ref (am 12), .int 0, .int 0, .int 1, .null, .null, .int 0, .int 0, .int 0, .long 0, .int 0, .ref (am 13), .int 0, .int 0, .int 0, .ref (am 14), .ref (am 15), .ref (am 16), .ref (am 17), .int 0, .ref (am 18), .ref (am 19), .ref (am 20)])), ((am 9), .inl (k 0, 8, .inl (fun _ => 0)))]) (isC := [0, 1, 2]) (isR := [3, 4]) hP hD hS hA rfl rfl (by decide) (by decide) (gx_runV (na := 3) (As := [.int (xs 1), .int (xs 2), .int (xs 3)]) (rest := []) (ci := 4) C hl.1 hK (gx_subP (wc := ([((ad 0), .inr (4, [.ref (ad 1), .ref (ad 2), .ref (ad 3), .ref (ad 4), .ref (ad 5), .ref (ad 6), .ref (ad 7), .ref (ad 8), .ref (ad 9), .int 0])), ((ad 1), .inr (0, [.ref (ad 10), .ref (ad 11), .ref (ad 12), .ref (ad 13), .ref (ad 14), .ref (ad 15), .ref (ad 16), .ref (ad 17), .ref (ad 18), .int 0, .int 0, .int 0, .int 0, .int 1, .int 0, .int 0, .int 0])), ((ad 9), .inl (k 0, 5, .inl (fun _ => 0)))] : va_W)) hP [0, 1, 2] rfl) ((hD.sub (ws' := ([((ad 0), .inr (4, [.ref (ad 1), .ref (ad 2), .ref (ad 3), .ref (ad 4), .ref (ad 5), .ref (ad 6), .ref (ad 7), .ref (ad 8), .ref (ad 9), .int 0])), ((ad 1), .inr (0, [.ref (ad 10), .ref (ad 11), .ref (ad 12), .ref (ad 13), .ref (ad 14), .ref (ad 15), .ref (ad 16), .ref (ad 17), .ref (ad 18), .int 0, .int 0, .int 0, .int 0, .int 1, .int 0, .int 0, .int 0])), ((ad 9), .inl (k 0, 5, .inl (fun _ => 0)))] : va_W)) [0, 1, 2] (by decide) rfl).weaken (fun _ _ _ _ => trivial)) (x_errands l D k ad (xs 1) (xs 2) (xs 3) _) gV_R_law_161 (by decide +kernel) rfl rfl ⟨Nat.le_of_ble_eq_true rfl, Nat.le_of_ble_eq_true rfl⟩ rfl rfl rfl rfl (Nat.le_of_ble_eq_true rfl) dL_law_1417 ⟨Nat.le_of_ble_eq_true rfl, Nat.le_of_ble_eq_true rfl⟩) (fun r_3 u_1 H locs h_2 hP hD hS => ?_)
  have h_2 : r_3 = -2 := h_2
  have hP : va_P D gx_cl [(hm, .inr (5, [.ref (am 1), .ref (am 2), .ref (am 3), .ref (am 4), .ref (am 5), .ref (am 6), .ref (am 7), .ref (am 8), .int 0, .ref (am 9), .int 0, .ref (am 10), .int 0, .ref (am 11), .ref (am 12), .int 0, .int 0, .int 1, .null, .null, .int 0, .int 0, .int 0, .long 0, .int 0, .ref (am 13), .int 0, .int 0, .int 0, .ref (am 14), .ref (am 15), .ref (am 16), .ref (am 17), .int 0, .ref (am 18), .ref (am 19), .ref (am 20)])), ((am 9), .inl (k 0, 8, .inl (fun _ => 0)))] H := hP
  have hD : va_D A [(hm, .inr (5, [.ref (am 1), .ref (am 2), .ref (am 3), .ref (am 4), .ref (am 5), .ref (am 6), .ref (am 7), .ref (am 8), .int 0, .ref (am 9), .int 0, .ref (am 10), .int 0, .ref (am 11), .ref (am 12), .int 0, .int 0, .int 1, .null, .null, .int 0, .int 0, .int 0, .long 0, .int 0, .ref (am 13), .int 0, .int 0, .int 0, .ref (am 14), .ref (am 15), .ref (am 16), .ref (am 17), .int 0, .ref (am 18), .ref (am 19), .ref (am 20)])), ((am 9), .inl (k 0, 8, .inl (fun _ => 0)))] := hD
  refine lv_aload_n hx hb dL_law_1420 rfl (lv_at hl 1 rfl) ?_
  refine lv_aload_n hx hb dL_law_1421 rfl (lv_at hl 3 rfl) ?_
  refine lv_iload_n hx hb dL_law_1422 rfl (lv_at hl 0 rfl) ?_
  refine lv_iconst (v := 1) hx hb dL_law_1423 (by decide) ?_
  refine lv_iadd hx hb dL_law_1424 ?_
  refine gx_cst (v := 1) (by decide) ?_
  refine va_sld hx hb hX hbl hbA hS (gx_vin rfl) dL_law_1425 ?_
  refine gx_cst (v := (xs 1)) rfl ?_
  refine lv_aload_n hx hb dL_law_1426 rfl (lv_at hl 3 rfl) ?_
  refine lv_iload_n hx hb dL_law_1427 rfl (lv_at hl 0 rfl) ?_
  refine lv_iconst (v := 2) hx hb dL_law_1428 (by decide) ?_
  refine lv_iadd hx hb dL_law_1429 ?_
  refine gx_cst (v := 2) (by decide) ?_
  refine va_sld hx hb hX hbl hbA hS (gx_vin rfl) dL_law_1430 ?_
  refine gx_cst (v := (xs 2)) rfl ?_
  refine lv_aload_n hx hb dL_law_1431 rfl (lv_at hl 3 rfl) ?_
  refine lv_iload_n hx hb dL_law_1432 rfl (lv_at hl 0 rfl) ?_
  refine lv_iconst (v := 3) hx hb dL_law_1433 (by decide) ?_
  refine lv_iadd hx hb dL_law_1434 ?_
  refine gx_cst (v := 3) (by decide) ?_
  refine va_sld hx hb hX hbl hbA hS (gx_vin rfl) dL_law_1435 ?_
  refine gx_cst (v := (xs 3)) rfl ?_
  refine gx_ei (wc := ([(hm, .inr (5, [.ref (am 1), .ref (am 2), .ref (am 3), .ref (am 4), .ref (am 5), .ref (am 6), .ref (am 7), .ref (am 8), .int 0, .ref (am 9), .int 0, .ref (am 10), .int 0, .ref (am 11), .ref (am 12), .int 0, .int 0, .int 1, .null, .null, .int 0, .int 0, .int 0, .long 0, .int 0, .ref (am 13), .int 0, .int 0, .int 0, .ref (am 14), .ref (am 15), .ref (am 16), .ref (am 17), .int 0, .ref (am 18), .ref (am 19), .ref (am 20)])), ((am 9), .inl (k 0, 8, .inl (fun _ => 0)))] : va_W)) (wr := []) (isC := [0, 1]) (isR := []) hP hD hS hA rfl rfl (by decide) (by decide) (gx_runV (na := 3) (As := [.int (xs 1), .int (xs 2), .int (xs 3)]) (rest := [.int r_3]) (ci := 5) C hl.1 hK (gx_subP (wc := ([(hm, .inr (5, [.ref (am 1), .ref (am 2), .ref (am 3), .ref (am 4), .ref (am 5), .ref (am 6), .ref (am 7), .ref (am 8), .int 0, .ref (am 9), .int 0, .ref (am 10), .int 0, .ref (am 11), .ref (am 12), .int 0, .int 0, .int 1, .null, .null, .int 0, .int 0, .int 0, .long 0, .int 0, .ref (am 13), .int 0, .int 0, .int 0, .ref (am 14), .ref (am 15), .ref (am 16), .ref (am 17), .int 0, .ref (am 18), .ref (am 19), .ref (am 20)])), ((am 9), .inl (k 0, 8, .inl (fun _ => 0)))] : va_W)) hP [0, 1] rfl) ((hD.sub (ws' := ([(hm, .inr (5, [.ref (am 1), .ref (am 2), .ref (am 3), .ref (am 4), .ref (am 5), .ref (am 6), .ref (am 7), .ref (am 8), .int 0, .ref (am 9), .int 0, .ref (am 10), .int 0, .ref (am 11), .ref (am 12), .int 0, .int 0, .int 1, .null, .null, .int 0, .int 0, .int 0, .long 0, .int 0, .ref (am 13), .int 0, .int 0, .int 0, .ref (am 14), .ref (am 15), .ref (am 16), .ref (am 17), .int 0, .ref (am 18), .ref (am 19), .ref (am 20)])), ((am 9), .inl (k 0, 8, .inl (fun _ => 0)))] : va_W)) [0, 1] (by decide) rfl).weaken (fun _ _ _ _ => trivial)) (m_errands_pub l D k hm am (xs 1) (xs 2) (xs 3) _) gV_R_law_164 (by decide +kernel) rfl rfl ⟨Nat.le_of_ble_eq_true rfl, Nat.le_of_ble_eq_true rfl⟩ rfl rfl rfl rfl (Nat.le_of_ble_eq_true rfl) dL_law_1436 ⟨Nat.le_of_ble_eq_true rfl, Nat.le_of_ble_eq_true rfl⟩) (fun r_7 u_5 H locs h_6 hP hD hS => ?_)
  have h_6 : r_7 = -2 := h_6
  have hP : va_P D gx_cl [] H := hP
  have hD : va_D A [] := hD
  refine lv_icmp_eq (tgt := 1806) hx hb dL_law_1439 (by decide) (fun c_9 => ?_) (fun c_9 => absurd (h_2.trans h_6.symm) c_9)
  exact lc_next C0 hS (Nat.le_of_ble_eq_true rfl) (Nat.le_of_ble_eq_true rfl) (lv_sub hl [0, 3] rfl)
set_option maxHeartbeats 4000000 in
set_option maxRecDepth 100000 in
theorem lc_cut {p : Program} {l : Launch} {e : Env} {s : State} {m : MethodId} {below : List Frame} {meth : Method} {c : Code} {b : Nat} {xs : Nat → Int32} {D : va_G} {k : Nat → ClassId} {A : Nat → Prop} (C0 : lc_C p s m meth c b xs D k A) (ad : Nat → Nat) (hm : Nat) (am : Nat → Nat) (H : Heap) (locs : List Loc) (ls : Array Slot) (hP : va_P D gx_cl [((ad 0), .inr (4, [.ref (ad 1), .ref (ad 2), .ref (ad 3), .ref (ad 4), .ref (ad 5), .ref (ad 6), .ref (ad 7), .ref (ad 8), .ref (ad 9), .int 0])), ((ad 1), .inr (0, [.ref (ad 10), .ref (ad 11), .ref (ad 12), .ref (ad 13), .ref (ad 14), .ref (ad 15), .ref (ad 16), .ref (ad 17), .ref (ad 18), .int 0, .int 0, .int 0, .int 0, .int 1, .int 0, .int 0, .int 0])), ((ad 9), .inl (k 0, 5, .inl (fun _ => 0))), (hm, .inr (5, [.ref (am 1), .ref (am 2), .ref (am 3), .ref (am 4), .ref (am 5), .ref (am 6), .ref (am 7), .ref (am 8), .int 0, .ref (am 9), .int 0, .ref (am 10), .int 0, .ref (am 11), .ref (am 12), .int 0, .int 0, .int 1, .null, .null, .int 0, .int 0, .int 0, .long 0, .int 0, .ref (am 13), .int 0, .int 0, .int 0, .ref (am 14), .ref (am 15), .ref (am 16), .ref (am 17), .int 0, .ref (am 18), .ref (am 19), .ref (am 20)])), ((am 9), .inl (k 0, 8, .inl (fun _ => 0)))] H) (hD : va_D A [((ad 0), .inr (4, [.ref (ad 1), .ref (ad 2), .ref (ad 3), .ref (ad 4), .ref (ad 5), .ref (ad 6), .ref (ad 7), .ref (ad 8), .ref (ad 9), .int 0])), ((ad 1), .inr (0, [.ref (ad 10), .ref (ad 11), .ref (ad 12), .ref (ad 13), .ref (ad 14), .ref (ad 15), .ref (ad 16), .ref (ad 17), .ref (ad 18), .int 0, .int 0, .int 0, .int 0, .int 1, .int 0, .int 0, .int 0])), ((ad 9), .inl (k 0, 5, .inl (fun _ => 0))), (hm, .inr (5, [.ref (am 1), .ref (am 2), .ref (am 3), .ref (am 4), .ref (am 5), .ref (am 6), .ref (am 7), .ref (am 8), .int 0, .ref (am 9), .int 0, .ref (am 10), .int 0, .ref (am 11), .ref (am 12), .int 0, .int 0, .int 1, .null, .null, .int 0, .int 0, .int 0, .long 0, .int 0, .ref (am 13), .int 0, .int 0, .int 0, .ref (am 14), .ref (am 15), .ref (am 16), .ref (am 17), .int 0, .ref (am 18), .ref (am 19), .ref (am 20)])), ((am 9), .inl (k 0, 8, .inl (fun _ => 0)))]) (hS : va_S A s.heap H locs) (hl : lv_has ls 4 [(3, .int 0), (2, .ref hm), (1, .ref (ad 0)), (0, .ref b)]) : W p l e room_1 s m #[Value.ref b] below meth c H locs 1140 19699 (lw_Z below #[Value.ref b] s) (F0 m 1444 ls []) := by
  obtain ⟨C, hK, hX, hbl, hA, hA2, hbA⟩ := id C0
  obtain ⟨hx, hb, hr, hml, hown, hT, hlk, -⟩ := id C
  refine lv_aload_n hx hb dL_law_1444 rfl (lv_at hl 2 rfl) ?_
  refine lv_aload_n hx hb dL_law_1445 rfl (lv_at hl 3 rfl) ?_
  refine lv_iload_n hx hb dL_law_1446 rfl (lv_at hl 0 rfl) ?_
  refine lv_iconst (v := 1) hx hb dL_law_1447 (by decide) ?_
  refine lv_iadd hx hb dL_law_1448 ?_
  refine gx_cst (v := 1) (by decide) ?_
  refine va_sld hx hb hX hbl hbA hS (gx_vin rfl) dL_law_1449 ?_
  refine gx_cst (v := (xs 1)) rfl ?_
  refine lv_aload_n hx hb dL_law_1450 rfl (lv_at hl 3 rfl) ?_
  refine lv_iload_n hx hb dL_law_1451 rfl (lv_at hl 0 rfl) ?_
  refine lv_iconst (v := 2) hx hb dL_law_1452 (by decide) ?_
  refine lv_iadd hx hb dL_law_1453 ?_
  refine gx_cst (v := 2) (by decide) ?_
  refine va_sld hx hb hX hbl hbA hS (gx_vin rfl) dL_law_1454 ?_
  refine gx_cst (v := (xs 2)) rfl ?_
  refine lv_aload_n hx hb dL_law_1455 rfl (lv_at hl 3 rfl) ?_
  refine lv_iload_n hx hb dL_law_1456 rfl (lv_at hl 0 rfl) ?_
  refine lv_iconst (v := 3) hx hb dL_law_1457 (by decide) ?_
  refine lv_iadd hx hb dL_law_1458 ?_
  refine gx_cst (v := 3) (by decide) ?_
  refine va_sld hx hb hX hbl hbA hS (gx_vin rfl) dL_law_1459 ?_
  refine gx_cst (v := (xs 3)) rfl ?_
  refine gx_ei (wc := ([((ad 0), .inr (4, [.ref (ad 1), .ref (ad 2), .ref (ad 3), .ref (ad 4), .ref (ad 5), .ref (ad 6), .ref (ad 7), .ref (ad 8), .ref (ad 9), .int 0])), ((ad 1), .inr (0, [.ref (ad 10), .ref (ad 11), .ref (ad 12), .ref (ad 13), .ref (ad 14), .ref (ad 15), .ref (ad 16), .ref (ad 17), .ref (ad 18), .int 0, .int 0, .int 0, .int 0, .int 1, .int 0, .int 0, .int 0])), ((ad 9), .inl (k 0, 5, .inl (fun _ => 0)))] : va_W)) (wr := [(hm, .inr (5, [.ref (am 1), .ref (am 2), .ref (am 3), .ref (am 4), .ref (am 5), .ref (am 6), .ref (am 7), .ref (am 8), .int 0, .ref (am 9), .int 0, .ref (am 10), .int 0, .ref (am 11), .ref (am 12), .int 0, .int 0, .int 1, .null, .null, .int 0, .int 0, .int 0, .long 0, .int 0, .ref (am 13), .int 0, .int 0, .int 0, .ref (am 14), .ref (am 15), .ref (am 16), .ref (am 17), .int 0, .ref (am 18), .ref (am 19), .ref (am 20)])), ((am 9), .inl (k 0, 8, .inl (fun _ => 0)))]) (isC := [0, 1, 2]) (isR := [3, 4]) hP hD hS hA rfl rfl (by decide) (by decide) (gx_runV (na := 3) (As := [.int (xs 1), .int (xs 2), .int (xs 3)]) (rest := []) (ci := 4) C hl.1 hK (gx_subP (wc := ([((ad 0), .inr (4, [.ref (ad 1), .ref (ad 2), .ref (ad 3), .ref (ad 4), .ref (ad 5), .ref (ad 6), .ref (ad 7), .ref (ad 8), .ref (ad 9), .int 0])), ((ad 1), .inr (0, [.ref (ad 10), .ref (ad 11), .ref (ad 12), .ref (ad 13), .ref (ad 14), .ref (ad 15), .ref (ad 16), .ref (ad 17), .ref (ad 18), .int 0, .int 0, .int 0, .int 0, .int 1, .int 0, .int 0, .int 0])), ((ad 9), .inl (k 0, 5, .inl (fun _ => 0)))] : va_W)) hP [0, 1, 2] rfl) ((hD.sub (ws' := ([((ad 0), .inr (4, [.ref (ad 1), .ref (ad 2), .ref (ad 3), .ref (ad 4), .ref (ad 5), .ref (ad 6), .ref (ad 7), .ref (ad 8), .ref (ad 9), .int 0])), ((ad 1), .inr (0, [.ref (ad 10), .ref (ad 11), .ref (ad 12), .ref (ad 13), .ref (ad 14), .ref (ad 15), .ref (ad 16), .ref (ad 17), .ref (ad 18), .int 0, .int 0, .int 0, .int 0, .int 1, .int 0, .int 0, .int 0])), ((ad 9), .inl (k 0, 5, .inl (fun _ => 0)))] : va_W)) [0, 1, 2] (by decide) rfl).weaken (fun _ _ _ _ => trivial)) (x_cut l D k ad (xs 1) (xs 2) (xs 3) _) gV_R_law_165 (by decide +kernel) rfl rfl ⟨Nat.le_of_ble_eq_true rfl, Nat.le_of_ble_eq_true rfl⟩ rfl rfl rfl rfl (Nat.le_of_ble_eq_true rfl) dL_law_1460 ⟨Nat.le_of_ble_eq_true rfl, Nat.le_of_ble_eq_true rfl⟩) (fun r_3 u_1 H locs h_2 hP hD hS => ?_)
  have h_2 : r_3 = -2 := h_2
  have hP : va_P D gx_cl [(hm, .inr (5, [.ref (am 1), .ref (am 2), .ref (am 3), .ref (am 4), .ref (am 5), .ref (am 6), .ref (am 7), .ref (am 8), .int 0, .ref (am 9), .int 0, .ref (am 10), .int 0, .ref (am 11), .ref (am 12), .int 0, .int 0, .int 1, .null, .null, .int 0, .int 0, .int 0, .long 0, .int 0, .ref (am 13), .int 0, .int 0, .int 0, .ref (am 14), .ref (am 15), .ref (am 16), .ref (am 17), .int 0, .ref (am 18), .ref (am 19), .ref (am 20)])), ((am 9), .inl (k 0, 8, .inl (fun _ => 0)))] H := hP
  have hD : va_D A [(hm, .inr (5, [.ref (am 1), .ref (am 2), .ref (am 3), .ref (am 4), .ref (am 5), .ref (am 6), .ref (am 7), .ref (am 8), .int 0, .ref (am 9), .int 0, .ref (am 10), .int 0, .ref (am 11), .ref (am 12), .int 0, .int 0, .int 1, .null, .null, .int 0, .int 0, .int 0, .long 0, .int 0, .ref (am 13), .int 0, .int 0, .int 0, .ref (am 14), .ref (am 15), .ref (am 16), .ref (am 17), .int 0, .ref (am 18), .ref (am 19), .ref (am 20)])), ((am 9), .inl (k 0, 8, .inl (fun _ => 0)))] := hD
  refine lv_aload_n hx hb dL_law_1463 rfl (lv_at hl 1 rfl) ?_
  refine lv_aload_n hx hb dL_law_1464 rfl (lv_at hl 3 rfl) ?_
  refine lv_iload_n hx hb dL_law_1465 rfl (lv_at hl 0 rfl) ?_
  refine lv_iconst (v := 1) hx hb dL_law_1466 (by decide) ?_
  refine lv_iadd hx hb dL_law_1467 ?_
  refine gx_cst (v := 1) (by decide) ?_
  refine va_sld hx hb hX hbl hbA hS (gx_vin rfl) dL_law_1468 ?_
  refine gx_cst (v := (xs 1)) rfl ?_
  refine lv_aload_n hx hb dL_law_1469 rfl (lv_at hl 3 rfl) ?_
  refine lv_iload_n hx hb dL_law_1470 rfl (lv_at hl 0 rfl) ?_
  refine lv_iconst (v := 2) hx hb dL_law_1471 (by decide) ?_
  refine lv_iadd hx hb dL_law_1472 ?_
  refine gx_cst (v := 2) (by decide) ?_
  refine va_sld hx hb hX hbl hbA hS (gx_vin rfl) dL_law_1473 ?_
  refine gx_cst (v := (xs 2)) rfl ?_
  refine lv_aload_n hx hb dL_law_1474 rfl (lv_at hl 3 rfl) ?_
  refine lv_iload_n hx hb dL_law_1475 rfl (lv_at hl 0 rfl) ?_
  refine lv_iconst (v := 3) hx hb dL_law_1476 (by decide) ?_
  refine lv_iadd hx hb dL_law_1477 ?_
  refine gx_cst (v := 3) (by decide) ?_
  refine va_sld hx hb hX hbl hbA hS (gx_vin rfl) dL_law_1478 ?_
  refine gx_cst (v := (xs 3)) rfl ?_
  refine gx_ei (wc := ([(hm, .inr (5, [.ref (am 1), .ref (am 2), .ref (am 3), .ref (am 4), .ref (am 5), .ref (am 6), .ref (am 7), .ref (am 8), .int 0, .ref (am 9), .int 0, .ref (am 10), .int 0, .ref (am 11), .ref (am 12), .int 0, .int 0, .int 1, .null, .null, .int 0, .int 0, .int 0, .long 0, .int 0, .ref (am 13), .int 0, .int 0, .int 0, .ref (am 14), .ref (am 15), .ref (am 16), .ref (am 17), .int 0, .ref (am 18), .ref (am 19), .ref (am 20)])), ((am 9), .inl (k 0, 8, .inl (fun _ => 0)))] : va_W)) (wr := []) (isC := [0, 1]) (isR := []) hP hD hS hA rfl rfl (by decide) (by decide) (gx_runV (na := 3) (As := [.int (xs 1), .int (xs 2), .int (xs 3)]) (rest := [.int r_3]) (ci := 5) C hl.1 hK (gx_subP (wc := ([(hm, .inr (5, [.ref (am 1), .ref (am 2), .ref (am 3), .ref (am 4), .ref (am 5), .ref (am 6), .ref (am 7), .ref (am 8), .int 0, .ref (am 9), .int 0, .ref (am 10), .int 0, .ref (am 11), .ref (am 12), .int 0, .int 0, .int 1, .null, .null, .int 0, .int 0, .int 0, .long 0, .int 0, .ref (am 13), .int 0, .int 0, .int 0, .ref (am 14), .ref (am 15), .ref (am 16), .ref (am 17), .int 0, .ref (am 18), .ref (am 19), .ref (am 20)])), ((am 9), .inl (k 0, 8, .inl (fun _ => 0)))] : va_W)) hP [0, 1] rfl) ((hD.sub (ws' := ([(hm, .inr (5, [.ref (am 1), .ref (am 2), .ref (am 3), .ref (am 4), .ref (am 5), .ref (am 6), .ref (am 7), .ref (am 8), .int 0, .ref (am 9), .int 0, .ref (am 10), .int 0, .ref (am 11), .ref (am 12), .int 0, .int 0, .int 1, .null, .null, .int 0, .int 0, .int 0, .long 0, .int 0, .ref (am 13), .int 0, .int 0, .int 0, .ref (am 14), .ref (am 15), .ref (am 16), .ref (am 17), .int 0, .ref (am 18), .ref (am 19), .ref (am 20)])), ((am 9), .inl (k 0, 8, .inl (fun _ => 0)))] : va_W)) [0, 1] (by decide) rfl).weaken (fun _ _ _ _ => trivial)) (m_cut_pub l D k hm am (xs 1) (xs 2) (xs 3) _) gV_R_law_168 (by decide +kernel) rfl rfl ⟨Nat.le_of_ble_eq_true rfl, Nat.le_of_ble_eq_true rfl⟩ rfl rfl rfl rfl (Nat.le_of_ble_eq_true rfl) dL_law_1479 ⟨Nat.le_of_ble_eq_true rfl, Nat.le_of_ble_eq_true rfl⟩) (fun r_7 u_5 H locs h_6 hP hD hS => ?_)
  have h_6 : r_7 = -2 := h_6
  have hP : va_P D gx_cl [] H := hP
  have hD : va_D A [] := hD
  refine lv_icmp_eq (tgt := 1806) hx hb dL_law_1482 (by decide) (fun c_9 => ?_) (fun c_9 => absurd (h_2.trans h_6.symm) c_9)
  exact lc_next C0 hS (Nat.le_of_ble_eq_true rfl) (Nat.le_of_ble_eq_true rfl) (lv_sub hl [0, 3] rfl)
set_option maxHeartbeats 4000000 in
set_option maxRecDepth 100000 in
theorem lc_meets {p : Program} {l : Launch} {e : Env} {s : State} {m : MethodId} {below : List Frame} {meth : Method} {c : Code} {b : Nat} {xs : Nat → Int32} {D : va_G} {k : Nat → ClassId} {A : Nat → Prop} (C0 : lc_C p s m meth c b xs D k A) (ad : Nat → Nat) (hm : Nat) (am : Nat → Nat) (H : Heap) (locs : List Loc) (ls : Array Slot) (hP : va_P D gx_cl [((ad 0), .inr (4, [.ref (ad 1), .ref (ad 2), .ref (ad 3), .ref (ad 4), .ref (ad 5), .ref (ad 6), .ref (ad 7), .ref (ad 8), .ref (ad 9), .int 0])), ((ad 1), .inr (0, [.ref (ad 10), .ref (ad 11), .ref (ad 12), .ref (ad 13), .ref (ad 14), .ref (ad 15), .ref (ad 16), .ref (ad 17), .ref (ad 18), .int 0, .int 0, .int 0, .int 0, .int 1, .int 0, .int 0, .int 0])), ((ad 9), .inl (k 0, 5, .inl (fun _ => 0))), (hm, .inr (5, [.ref (am 1), .ref (am 2), .ref (am 3), .ref (am 4), .ref (am 5), .ref (am 6), .ref (am 7), .ref (am 8), .int 0, .ref (am 9), .int 0, .ref (am 10), .int 0, .ref (am 11), .ref (am 12), .int 0, .int 0, .int 1, .null, .null, .int 0, .int 0, .int 0, .long 0, .int 0, .ref (am 13), .int 0, .int 0, .int 0, .ref (am 14), .ref (am 15), .ref (am 16), .ref (am 17), .int 0, .ref (am 18), .ref (am 19), .ref (am 20)])), ((am 9), .inl (k 0, 8, .inl (fun _ => 0)))] H) (hD : va_D A [((ad 0), .inr (4, [.ref (ad 1), .ref (ad 2), .ref (ad 3), .ref (ad 4), .ref (ad 5), .ref (ad 6), .ref (ad 7), .ref (ad 8), .ref (ad 9), .int 0])), ((ad 1), .inr (0, [.ref (ad 10), .ref (ad 11), .ref (ad 12), .ref (ad 13), .ref (ad 14), .ref (ad 15), .ref (ad 16), .ref (ad 17), .ref (ad 18), .int 0, .int 0, .int 0, .int 0, .int 1, .int 0, .int 0, .int 0])), ((ad 9), .inl (k 0, 5, .inl (fun _ => 0))), (hm, .inr (5, [.ref (am 1), .ref (am 2), .ref (am 3), .ref (am 4), .ref (am 5), .ref (am 6), .ref (am 7), .ref (am 8), .int 0, .ref (am 9), .int 0, .ref (am 10), .int 0, .ref (am 11), .ref (am 12), .int 0, .int 0, .int 1, .null, .null, .int 0, .int 0, .int 0, .long 0, .int 0, .ref (am 13), .int 0, .int 0, .int 0, .ref (am 14), .ref (am 15), .ref (am 16), .ref (am 17), .int 0, .ref (am 18), .ref (am 19), .ref (am 20)])), ((am 9), .inl (k 0, 8, .inl (fun _ => 0)))]) (hS : va_S A s.heap H locs) (hl : lv_has ls 4 [(3, .int 0), (2, .ref hm), (1, .ref (ad 0)), (0, .ref b)]) : W p l e room_1 s m #[Value.ref b] below meth c H locs 1140 19699 (lw_Z below #[Value.ref b] s) (F0 m 1487 ls []) := by
  obtain ⟨C, hK, hX, hbl, hA, hA2, hbA⟩ := id C0
  obtain ⟨hx, hb, hr, hml, hown, hT, hlk, -⟩ := id C
  refine lv_aload_n hx hb dL_law_1487 rfl (lv_at hl 2 rfl) ?_
  refine lv_aload_n hx hb dL_law_1488 rfl (lv_at hl 3 rfl) ?_
  refine lv_iload_n hx hb dL_law_1489 rfl (lv_at hl 0 rfl) ?_
  refine lv_iconst (v := 1) hx hb dL_law_1490 (by decide) ?_
  refine lv_iadd hx hb dL_law_1491 ?_
  refine gx_cst (v := 1) (by decide) ?_
  refine va_sld hx hb hX hbl hbA hS (gx_vin rfl) dL_law_1492 ?_
  refine gx_cst (v := (xs 1)) rfl ?_
  refine lv_aload_n hx hb dL_law_1493 rfl (lv_at hl 3 rfl) ?_
  refine lv_iload_n hx hb dL_law_1494 rfl (lv_at hl 0 rfl) ?_
  refine lv_iconst (v := 2) hx hb dL_law_1495 (by decide) ?_
  refine lv_iadd hx hb dL_law_1496 ?_
  refine gx_cst (v := 2) (by decide) ?_
  refine va_sld hx hb hX hbl hbA hS (gx_vin rfl) dL_law_1497 ?_
  refine gx_cst (v := (xs 2)) rfl ?_
  refine lv_aload_n hx hb dL_law_1498 rfl (lv_at hl 3 rfl) ?_
  refine lv_iload_n hx hb dL_law_1499 rfl (lv_at hl 0 rfl) ?_
  refine lv_iconst (v := 3) hx hb dL_law_1500 (by decide) ?_
  refine lv_iadd hx hb dL_law_1501 ?_
  refine gx_cst (v := 3) (by decide) ?_
  refine va_sld hx hb hX hbl hbA hS (gx_vin rfl) dL_law_1502 ?_
  refine gx_cst (v := (xs 3)) rfl ?_
  refine gx_ei (wc := ([((ad 0), .inr (4, [.ref (ad 1), .ref (ad 2), .ref (ad 3), .ref (ad 4), .ref (ad 5), .ref (ad 6), .ref (ad 7), .ref (ad 8), .ref (ad 9), .int 0])), ((ad 1), .inr (0, [.ref (ad 10), .ref (ad 11), .ref (ad 12), .ref (ad 13), .ref (ad 14), .ref (ad 15), .ref (ad 16), .ref (ad 17), .ref (ad 18), .int 0, .int 0, .int 0, .int 0, .int 1, .int 0, .int 0, .int 0])), ((ad 9), .inl (k 0, 5, .inl (fun _ => 0)))] : va_W)) (wr := [(hm, .inr (5, [.ref (am 1), .ref (am 2), .ref (am 3), .ref (am 4), .ref (am 5), .ref (am 6), .ref (am 7), .ref (am 8), .int 0, .ref (am 9), .int 0, .ref (am 10), .int 0, .ref (am 11), .ref (am 12), .int 0, .int 0, .int 1, .null, .null, .int 0, .int 0, .int 0, .long 0, .int 0, .ref (am 13), .int 0, .int 0, .int 0, .ref (am 14), .ref (am 15), .ref (am 16), .ref (am 17), .int 0, .ref (am 18), .ref (am 19), .ref (am 20)])), ((am 9), .inl (k 0, 8, .inl (fun _ => 0)))]) (isC := [0, 1, 2]) (isR := [3, 4]) hP hD hS hA rfl rfl (by decide) (by decide) (gx_runV (na := 3) (As := [.int (xs 1), .int (xs 2), .int (xs 3)]) (rest := []) (ci := 4) C hl.1 hK (gx_subP (wc := ([((ad 0), .inr (4, [.ref (ad 1), .ref (ad 2), .ref (ad 3), .ref (ad 4), .ref (ad 5), .ref (ad 6), .ref (ad 7), .ref (ad 8), .ref (ad 9), .int 0])), ((ad 1), .inr (0, [.ref (ad 10), .ref (ad 11), .ref (ad 12), .ref (ad 13), .ref (ad 14), .ref (ad 15), .ref (ad 16), .ref (ad 17), .ref (ad 18), .int 0, .int 0, .int 0, .int 0, .int 1, .int 0, .int 0, .int 0])), ((ad 9), .inl (k 0, 5, .inl (fun _ => 0)))] : va_W)) hP [0, 1, 2] rfl) ((hD.sub (ws' := ([((ad 0), .inr (4, [.ref (ad 1), .ref (ad 2), .ref (ad 3), .ref (ad 4), .ref (ad 5), .ref (ad 6), .ref (ad 7), .ref (ad 8), .ref (ad 9), .int 0])), ((ad 1), .inr (0, [.ref (ad 10), .ref (ad 11), .ref (ad 12), .ref (ad 13), .ref (ad 14), .ref (ad 15), .ref (ad 16), .ref (ad 17), .ref (ad 18), .int 0, .int 0, .int 0, .int 0, .int 1, .int 0, .int 0, .int 0])), ((ad 9), .inl (k 0, 5, .inl (fun _ => 0)))] : va_W)) [0, 1, 2] (by decide) rfl).weaken (fun _ _ _ _ => trivial)) (x_meets l D k ad (xs 1) (xs 2) (xs 3) _) gV_R_law_169 (by decide +kernel) rfl rfl ⟨Nat.le_of_ble_eq_true rfl, Nat.le_of_ble_eq_true rfl⟩ rfl rfl rfl rfl (Nat.le_of_ble_eq_true rfl) dL_law_1503 ⟨Nat.le_of_ble_eq_true rfl, Nat.le_of_ble_eq_true rfl⟩) (fun r_3 u_1 H locs h_2 hP hD hS => ?_)
  have h_2 : r_3 = -2 := h_2
  have hP : va_P D gx_cl [(hm, .inr (5, [.ref (am 1), .ref (am 2), .ref (am 3), .ref (am 4), .ref (am 5), .ref (am 6), .ref (am 7), .ref (am 8), .int 0, .ref (am 9), .int 0, .ref (am 10), .int 0, .ref (am 11), .ref (am 12), .int 0, .int 0, .int 1, .null, .null, .int 0, .int 0, .int 0, .long 0, .int 0, .ref (am 13), .int 0, .int 0, .int 0, .ref (am 14), .ref (am 15), .ref (am 16), .ref (am 17), .int 0, .ref (am 18), .ref (am 19), .ref (am 20)])), ((am 9), .inl (k 0, 8, .inl (fun _ => 0)))] H := hP
  have hD : va_D A [(hm, .inr (5, [.ref (am 1), .ref (am 2), .ref (am 3), .ref (am 4), .ref (am 5), .ref (am 6), .ref (am 7), .ref (am 8), .int 0, .ref (am 9), .int 0, .ref (am 10), .int 0, .ref (am 11), .ref (am 12), .int 0, .int 0, .int 1, .null, .null, .int 0, .int 0, .int 0, .long 0, .int 0, .ref (am 13), .int 0, .int 0, .int 0, .ref (am 14), .ref (am 15), .ref (am 16), .ref (am 17), .int 0, .ref (am 18), .ref (am 19), .ref (am 20)])), ((am 9), .inl (k 0, 8, .inl (fun _ => 0)))] := hD
  refine lv_aload_n hx hb dL_law_1506 rfl (lv_at hl 1 rfl) ?_
  refine lv_aload_n hx hb dL_law_1507 rfl (lv_at hl 3 rfl) ?_
  refine lv_iload_n hx hb dL_law_1508 rfl (lv_at hl 0 rfl) ?_
  refine lv_iconst (v := 1) hx hb dL_law_1509 (by decide) ?_
  refine lv_iadd hx hb dL_law_1510 ?_
  refine gx_cst (v := 1) (by decide) ?_
  refine va_sld hx hb hX hbl hbA hS (gx_vin rfl) dL_law_1511 ?_
  refine gx_cst (v := (xs 1)) rfl ?_
  refine lv_aload_n hx hb dL_law_1512 rfl (lv_at hl 3 rfl) ?_
  refine lv_iload_n hx hb dL_law_1513 rfl (lv_at hl 0 rfl) ?_
  refine lv_iconst (v := 2) hx hb dL_law_1514 (by decide) ?_
  refine lv_iadd hx hb dL_law_1515 ?_
  refine gx_cst (v := 2) (by decide) ?_
  refine va_sld hx hb hX hbl hbA hS (gx_vin rfl) dL_law_1516 ?_
  refine gx_cst (v := (xs 2)) rfl ?_
  refine lv_aload_n hx hb dL_law_1517 rfl (lv_at hl 3 rfl) ?_
  refine lv_iload_n hx hb dL_law_1518 rfl (lv_at hl 0 rfl) ?_
  refine lv_iconst (v := 3) hx hb dL_law_1519 (by decide) ?_
  refine lv_iadd hx hb dL_law_1520 ?_
  refine gx_cst (v := 3) (by decide) ?_
  refine va_sld hx hb hX hbl hbA hS (gx_vin rfl) dL_law_1521 ?_
  refine gx_cst (v := (xs 3)) rfl ?_
  refine gx_ei (wc := ([(hm, .inr (5, [.ref (am 1), .ref (am 2), .ref (am 3), .ref (am 4), .ref (am 5), .ref (am 6), .ref (am 7), .ref (am 8), .int 0, .ref (am 9), .int 0, .ref (am 10), .int 0, .ref (am 11), .ref (am 12), .int 0, .int 0, .int 1, .null, .null, .int 0, .int 0, .int 0, .long 0, .int 0, .ref (am 13), .int 0, .int 0, .int 0, .ref (am 14), .ref (am 15), .ref (am 16), .ref (am 17), .int 0, .ref (am 18), .ref (am 19), .ref (am 20)])), ((am 9), .inl (k 0, 8, .inl (fun _ => 0)))] : va_W)) (wr := []) (isC := [0, 1]) (isR := []) hP hD hS hA rfl rfl (by decide) (by decide) (gx_runV (na := 3) (As := [.int (xs 1), .int (xs 2), .int (xs 3)]) (rest := [.int r_3]) (ci := 5) C hl.1 hK (gx_subP (wc := ([(hm, .inr (5, [.ref (am 1), .ref (am 2), .ref (am 3), .ref (am 4), .ref (am 5), .ref (am 6), .ref (am 7), .ref (am 8), .int 0, .ref (am 9), .int 0, .ref (am 10), .int 0, .ref (am 11), .ref (am 12), .int 0, .int 0, .int 1, .null, .null, .int 0, .int 0, .int 0, .long 0, .int 0, .ref (am 13), .int 0, .int 0, .int 0, .ref (am 14), .ref (am 15), .ref (am 16), .ref (am 17), .int 0, .ref (am 18), .ref (am 19), .ref (am 20)])), ((am 9), .inl (k 0, 8, .inl (fun _ => 0)))] : va_W)) hP [0, 1] rfl) ((hD.sub (ws' := ([(hm, .inr (5, [.ref (am 1), .ref (am 2), .ref (am 3), .ref (am 4), .ref (am 5), .ref (am 6), .ref (am 7), .ref (am 8), .int 0, .ref (am 9), .int 0, .ref (am 10), .int 0, .ref (am 11), .ref (am 12), .int 0, .int 0, .int 1, .null, .null, .int 0, .int 0, .int 0, .long 0, .int 0, .ref (am 13), .int 0, .int 0, .int 0, .ref (am 14), .ref (am 15), .ref (am 16), .ref (am 17), .int 0, .ref (am 18), .ref (am 19), .ref (am 20)])), ((am 9), .inl (k 0, 8, .inl (fun _ => 0)))] : va_W)) [0, 1] (by decide) rfl).weaken (fun _ _ _ _ => trivial)) (m_meets_pub l D k hm am (xs 1) (xs 2) (xs 3) _) gV_R_law_172 (by decide +kernel) rfl rfl ⟨Nat.le_of_ble_eq_true rfl, Nat.le_of_ble_eq_true rfl⟩ rfl rfl rfl rfl (Nat.le_of_ble_eq_true rfl) dL_law_1522 ⟨Nat.le_of_ble_eq_true rfl, Nat.le_of_ble_eq_true rfl⟩) (fun r_7 u_5 H locs h_6 hP hD hS => ?_)
  have h_6 : r_7 = -2 := h_6
  have hP : va_P D gx_cl [] H := hP
  have hD : va_D A [] := hD
  refine lv_icmp_eq (tgt := 1806) hx hb dL_law_1525 (by decide) (fun c_9 => ?_) (fun c_9 => absurd (h_2.trans h_6.symm) c_9)
  exact lc_next C0 hS (Nat.le_of_ble_eq_true rfl) (Nat.le_of_ble_eq_true rfl) (lv_sub hl [0, 3] rfl)
set_option maxHeartbeats 4000000 in
set_option maxRecDepth 100000 in
theorem lc_near {p : Program} {l : Launch} {e : Env} {s : State} {m : MethodId} {below : List Frame} {meth : Method} {c : Code} {b : Nat} {xs : Nat → Int32} {D : va_G} {k : Nat → ClassId} {A : Nat → Prop} (C0 : lc_C p s m meth c b xs D k A) (ad : Nat → Nat) (hm : Nat) (am : Nat → Nat) (H : Heap) (locs : List Loc) (ls : Array Slot) (hP : va_P D gx_cl [((ad 0), .inr (4, [.ref (ad 1), .ref (ad 2), .ref (ad 3), .ref (ad 4), .ref (ad 5), .ref (ad 6), .ref (ad 7), .ref (ad 8), .ref (ad 9), .int 0])), ((ad 1), .inr (0, [.ref (ad 10), .ref (ad 11), .ref (ad 12), .ref (ad 13), .ref (ad 14), .ref (ad 15), .ref (ad 16), .ref (ad 17), .ref (ad 18), .int 0, .int 0, .int 0, .int 0, .int 1, .int 0, .int 0, .int 0])), ((ad 9), .inl (k 0, 5, .inl (fun _ => 0))), (hm, .inr (5, [.ref (am 1), .ref (am 2), .ref (am 3), .ref (am 4), .ref (am 5), .ref (am 6), .ref (am 7), .ref (am 8), .int 0, .ref (am 9), .int 0, .ref (am 10), .int 0, .ref (am 11), .ref (am 12), .int 0, .int 0, .int 1, .null, .null, .int 0, .int 0, .int 0, .long 0, .int 0, .ref (am 13), .int 0, .int 0, .int 0, .ref (am 14), .ref (am 15), .ref (am 16), .ref (am 17), .int 0, .ref (am 18), .ref (am 19), .ref (am 20)])), ((am 9), .inl (k 0, 8, .inl (fun _ => 0)))] H) (hD : va_D A [((ad 0), .inr (4, [.ref (ad 1), .ref (ad 2), .ref (ad 3), .ref (ad 4), .ref (ad 5), .ref (ad 6), .ref (ad 7), .ref (ad 8), .ref (ad 9), .int 0])), ((ad 1), .inr (0, [.ref (ad 10), .ref (ad 11), .ref (ad 12), .ref (ad 13), .ref (ad 14), .ref (ad 15), .ref (ad 16), .ref (ad 17), .ref (ad 18), .int 0, .int 0, .int 0, .int 0, .int 1, .int 0, .int 0, .int 0])), ((ad 9), .inl (k 0, 5, .inl (fun _ => 0))), (hm, .inr (5, [.ref (am 1), .ref (am 2), .ref (am 3), .ref (am 4), .ref (am 5), .ref (am 6), .ref (am 7), .ref (am 8), .int 0, .ref (am 9), .int 0, .ref (am 10), .int 0, .ref (am 11), .ref (am 12), .int 0, .int 0, .int 1, .null, .null, .int 0, .int 0, .int 0, .long 0, .int 0, .ref (am 13), .int 0, .int 0, .int 0, .ref (am 14), .ref (am 15), .ref (am 16), .ref (am 17), .int 0, .ref (am 18), .ref (am 19), .ref (am 20)])), ((am 9), .inl (k 0, 8, .inl (fun _ => 0)))]) (hS : va_S A s.heap H locs) (hl : lv_has ls 4 [(3, .int 0), (2, .ref hm), (1, .ref (ad 0)), (0, .ref b)]) : W p l e room_1 s m #[Value.ref b] below meth c H locs 1140 19699 (lw_Z below #[Value.ref b] s) (F0 m 1530 ls []) := by
  obtain ⟨C, hK, hX, hbl, hA, hA2, hbA⟩ := id C0
  obtain ⟨hx, hb, hr, hml, hown, hT, hlk, -⟩ := id C
  refine lv_aload_n hx hb dL_law_1530 rfl (lv_at hl 2 rfl) ?_
  refine lv_aload_n hx hb dL_law_1531 rfl (lv_at hl 3 rfl) ?_
  refine lv_iload_n hx hb dL_law_1532 rfl (lv_at hl 0 rfl) ?_
  refine lv_iconst (v := 1) hx hb dL_law_1533 (by decide) ?_
  refine lv_iadd hx hb dL_law_1534 ?_
  refine gx_cst (v := 1) (by decide) ?_
  refine va_sld hx hb hX hbl hbA hS (gx_vin rfl) dL_law_1535 ?_
  refine gx_cst (v := (xs 1)) rfl ?_
  refine lv_aload_n hx hb dL_law_1536 rfl (lv_at hl 3 rfl) ?_
  refine lv_iload_n hx hb dL_law_1537 rfl (lv_at hl 0 rfl) ?_
  refine lv_iconst (v := 2) hx hb dL_law_1538 (by decide) ?_
  refine lv_iadd hx hb dL_law_1539 ?_
  refine gx_cst (v := 2) (by decide) ?_
  refine va_sld hx hb hX hbl hbA hS (gx_vin rfl) dL_law_1540 ?_
  refine gx_cst (v := (xs 2)) rfl ?_
  refine gx_ei (wc := ([((ad 0), .inr (4, [.ref (ad 1), .ref (ad 2), .ref (ad 3), .ref (ad 4), .ref (ad 5), .ref (ad 6), .ref (ad 7), .ref (ad 8), .ref (ad 9), .int 0])), ((ad 1), .inr (0, [.ref (ad 10), .ref (ad 11), .ref (ad 12), .ref (ad 13), .ref (ad 14), .ref (ad 15), .ref (ad 16), .ref (ad 17), .ref (ad 18), .int 0, .int 0, .int 0, .int 0, .int 1, .int 0, .int 0, .int 0])), ((ad 9), .inl (k 0, 5, .inl (fun _ => 0)))] : va_W)) (wr := [(hm, .inr (5, [.ref (am 1), .ref (am 2), .ref (am 3), .ref (am 4), .ref (am 5), .ref (am 6), .ref (am 7), .ref (am 8), .int 0, .ref (am 9), .int 0, .ref (am 10), .int 0, .ref (am 11), .ref (am 12), .int 0, .int 0, .int 1, .null, .null, .int 0, .int 0, .int 0, .long 0, .int 0, .ref (am 13), .int 0, .int 0, .int 0, .ref (am 14), .ref (am 15), .ref (am 16), .ref (am 17), .int 0, .ref (am 18), .ref (am 19), .ref (am 20)])), ((am 9), .inl (k 0, 8, .inl (fun _ => 0)))]) (isC := [0, 1, 2]) (isR := [3, 4]) hP hD hS hA rfl rfl (by decide) (by decide) (gx_runV (na := 2) (As := [.int (xs 1), .int (xs 2)]) (rest := []) (ci := 4) C hl.1 hK (gx_subP (wc := ([((ad 0), .inr (4, [.ref (ad 1), .ref (ad 2), .ref (ad 3), .ref (ad 4), .ref (ad 5), .ref (ad 6), .ref (ad 7), .ref (ad 8), .ref (ad 9), .int 0])), ((ad 1), .inr (0, [.ref (ad 10), .ref (ad 11), .ref (ad 12), .ref (ad 13), .ref (ad 14), .ref (ad 15), .ref (ad 16), .ref (ad 17), .ref (ad 18), .int 0, .int 0, .int 0, .int 0, .int 1, .int 0, .int 0, .int 0])), ((ad 9), .inl (k 0, 5, .inl (fun _ => 0)))] : va_W)) hP [0, 1, 2] rfl) ((hD.sub (ws' := ([((ad 0), .inr (4, [.ref (ad 1), .ref (ad 2), .ref (ad 3), .ref (ad 4), .ref (ad 5), .ref (ad 6), .ref (ad 7), .ref (ad 8), .ref (ad 9), .int 0])), ((ad 1), .inr (0, [.ref (ad 10), .ref (ad 11), .ref (ad 12), .ref (ad 13), .ref (ad 14), .ref (ad 15), .ref (ad 16), .ref (ad 17), .ref (ad 18), .int 0, .int 0, .int 0, .int 0, .int 1, .int 0, .int 0, .int 0])), ((ad 9), .inl (k 0, 5, .inl (fun _ => 0)))] : va_W)) [0, 1, 2] (by decide) rfl).weaken (fun _ _ _ _ => trivial)) (x_near l D k ad (xs 1) (xs 2) _) gV_R_law_173 (by decide +kernel) rfl rfl ⟨Nat.le_of_ble_eq_true rfl, Nat.le_of_ble_eq_true rfl⟩ rfl rfl rfl rfl (Nat.le_of_ble_eq_true rfl) dL_law_1541 ⟨Nat.le_of_ble_eq_true rfl, Nat.le_of_ble_eq_true rfl⟩) (fun r_3 u_1 H locs h_2 hP hD hS => ?_)
  have h_2 : r_3 = -2 := h_2
  have hP : va_P D gx_cl [(hm, .inr (5, [.ref (am 1), .ref (am 2), .ref (am 3), .ref (am 4), .ref (am 5), .ref (am 6), .ref (am 7), .ref (am 8), .int 0, .ref (am 9), .int 0, .ref (am 10), .int 0, .ref (am 11), .ref (am 12), .int 0, .int 0, .int 1, .null, .null, .int 0, .int 0, .int 0, .long 0, .int 0, .ref (am 13), .int 0, .int 0, .int 0, .ref (am 14), .ref (am 15), .ref (am 16), .ref (am 17), .int 0, .ref (am 18), .ref (am 19), .ref (am 20)])), ((am 9), .inl (k 0, 8, .inl (fun _ => 0)))] H := hP
  have hD : va_D A [(hm, .inr (5, [.ref (am 1), .ref (am 2), .ref (am 3), .ref (am 4), .ref (am 5), .ref (am 6), .ref (am 7), .ref (am 8), .int 0, .ref (am 9), .int 0, .ref (am 10), .int 0, .ref (am 11), .ref (am 12), .int 0, .int 0, .int 1, .null, .null, .int 0, .int 0, .int 0, .long 0, .int 0, .ref (am 13), .int 0, .int 0, .int 0, .ref (am 14), .ref (am 15), .ref (am 16), .ref (am 17), .int 0, .ref (am 18), .ref (am 19), .ref (am 20)])), ((am 9), .inl (k 0, 8, .inl (fun _ => 0)))] := hD
  refine lv_aload_n hx hb dL_law_1544 rfl (lv_at hl 1 rfl) ?_
  refine lv_aload_n hx hb dL_law_1545 rfl (lv_at hl 3 rfl) ?_
  refine lv_iload_n hx hb dL_law_1546 rfl (lv_at hl 0 rfl) ?_
  refine lv_iconst (v := 1) hx hb dL_law_1547 (by decide) ?_
  refine lv_iadd hx hb dL_law_1548 ?_
  refine gx_cst (v := 1) (by decide) ?_
  refine va_sld hx hb hX hbl hbA hS (gx_vin rfl) dL_law_1549 ?_
  refine gx_cst (v := (xs 1)) rfl ?_
  refine lv_aload_n hx hb dL_law_1550 rfl (lv_at hl 3 rfl) ?_
  refine lv_iload_n hx hb dL_law_1551 rfl (lv_at hl 0 rfl) ?_
  refine lv_iconst (v := 2) hx hb dL_law_1552 (by decide) ?_
  refine lv_iadd hx hb dL_law_1553 ?_
  refine gx_cst (v := 2) (by decide) ?_
  refine va_sld hx hb hX hbl hbA hS (gx_vin rfl) dL_law_1554 ?_
  refine gx_cst (v := (xs 2)) rfl ?_
  refine gx_ei (wc := ([(hm, .inr (5, [.ref (am 1), .ref (am 2), .ref (am 3), .ref (am 4), .ref (am 5), .ref (am 6), .ref (am 7), .ref (am 8), .int 0, .ref (am 9), .int 0, .ref (am 10), .int 0, .ref (am 11), .ref (am 12), .int 0, .int 0, .int 1, .null, .null, .int 0, .int 0, .int 0, .long 0, .int 0, .ref (am 13), .int 0, .int 0, .int 0, .ref (am 14), .ref (am 15), .ref (am 16), .ref (am 17), .int 0, .ref (am 18), .ref (am 19), .ref (am 20)])), ((am 9), .inl (k 0, 8, .inl (fun _ => 0)))] : va_W)) (wr := []) (isC := [0, 1]) (isR := []) hP hD hS hA rfl rfl (by decide) (by decide) (gx_runV (na := 2) (As := [.int (xs 1), .int (xs 2)]) (rest := [.int r_3]) (ci := 5) C hl.1 hK (gx_subP (wc := ([(hm, .inr (5, [.ref (am 1), .ref (am 2), .ref (am 3), .ref (am 4), .ref (am 5), .ref (am 6), .ref (am 7), .ref (am 8), .int 0, .ref (am 9), .int 0, .ref (am 10), .int 0, .ref (am 11), .ref (am 12), .int 0, .int 0, .int 1, .null, .null, .int 0, .int 0, .int 0, .long 0, .int 0, .ref (am 13), .int 0, .int 0, .int 0, .ref (am 14), .ref (am 15), .ref (am 16), .ref (am 17), .int 0, .ref (am 18), .ref (am 19), .ref (am 20)])), ((am 9), .inl (k 0, 8, .inl (fun _ => 0)))] : va_W)) hP [0, 1] rfl) ((hD.sub (ws' := ([(hm, .inr (5, [.ref (am 1), .ref (am 2), .ref (am 3), .ref (am 4), .ref (am 5), .ref (am 6), .ref (am 7), .ref (am 8), .int 0, .ref (am 9), .int 0, .ref (am 10), .int 0, .ref (am 11), .ref (am 12), .int 0, .int 0, .int 1, .null, .null, .int 0, .int 0, .int 0, .long 0, .int 0, .ref (am 13), .int 0, .int 0, .int 0, .ref (am 14), .ref (am 15), .ref (am 16), .ref (am 17), .int 0, .ref (am 18), .ref (am 19), .ref (am 20)])), ((am 9), .inl (k 0, 8, .inl (fun _ => 0)))] : va_W)) [0, 1] (by decide) rfl).weaken (fun _ _ _ _ => trivial)) (m_near_pub l D k hm am (xs 1) (xs 2) _) gV_R_law_176 (by decide +kernel) rfl rfl ⟨Nat.le_of_ble_eq_true rfl, Nat.le_of_ble_eq_true rfl⟩ rfl rfl rfl rfl (Nat.le_of_ble_eq_true rfl) dL_law_1555 ⟨Nat.le_of_ble_eq_true rfl, Nat.le_of_ble_eq_true rfl⟩) (fun r_7 u_5 H locs h_6 hP hD hS => ?_)
  have h_6 : r_7 = -2 := h_6
  have hP : va_P D gx_cl [] H := hP
  have hD : va_D A [] := hD
  refine lv_icmp_eq (tgt := 1806) hx hb dL_law_1558 (by decide) (fun c_9 => ?_) (fun c_9 => absurd (h_2.trans h_6.symm) c_9)
  exact lc_next C0 hS (Nat.le_of_ble_eq_true rfl) (Nat.le_of_ble_eq_true rfl) (lv_sub hl [0, 3] rfl)
set_option maxHeartbeats 4000000 in
set_option maxRecDepth 100000 in
theorem lc_together {p : Program} {l : Launch} {e : Env} {s : State} {m : MethodId} {below : List Frame} {meth : Method} {c : Code} {b : Nat} {xs : Nat → Int32} {D : va_G} {k : Nat → ClassId} {A : Nat → Prop} (C0 : lc_C p s m meth c b xs D k A) (ad : Nat → Nat) (hm : Nat) (am : Nat → Nat) (H : Heap) (locs : List Loc) (ls : Array Slot) (hP : va_P D gx_cl [((ad 0), .inr (4, [.ref (ad 1), .ref (ad 2), .ref (ad 3), .ref (ad 4), .ref (ad 5), .ref (ad 6), .ref (ad 7), .ref (ad 8), .ref (ad 9), .int 0])), ((ad 1), .inr (0, [.ref (ad 10), .ref (ad 11), .ref (ad 12), .ref (ad 13), .ref (ad 14), .ref (ad 15), .ref (ad 16), .ref (ad 17), .ref (ad 18), .int 0, .int 0, .int 0, .int 0, .int 1, .int 0, .int 0, .int 0])), ((ad 9), .inl (k 0, 5, .inl (fun _ => 0))), (hm, .inr (5, [.ref (am 1), .ref (am 2), .ref (am 3), .ref (am 4), .ref (am 5), .ref (am 6), .ref (am 7), .ref (am 8), .int 0, .ref (am 9), .int 0, .ref (am 10), .int 0, .ref (am 11), .ref (am 12), .int 0, .int 0, .int 1, .null, .null, .int 0, .int 0, .int 0, .long 0, .int 0, .ref (am 13), .int 0, .int 0, .int 0, .ref (am 14), .ref (am 15), .ref (am 16), .ref (am 17), .int 0, .ref (am 18), .ref (am 19), .ref (am 20)])), ((am 9), .inl (k 0, 8, .inl (fun _ => 0)))] H) (hD : va_D A [((ad 0), .inr (4, [.ref (ad 1), .ref (ad 2), .ref (ad 3), .ref (ad 4), .ref (ad 5), .ref (ad 6), .ref (ad 7), .ref (ad 8), .ref (ad 9), .int 0])), ((ad 1), .inr (0, [.ref (ad 10), .ref (ad 11), .ref (ad 12), .ref (ad 13), .ref (ad 14), .ref (ad 15), .ref (ad 16), .ref (ad 17), .ref (ad 18), .int 0, .int 0, .int 0, .int 0, .int 1, .int 0, .int 0, .int 0])), ((ad 9), .inl (k 0, 5, .inl (fun _ => 0))), (hm, .inr (5, [.ref (am 1), .ref (am 2), .ref (am 3), .ref (am 4), .ref (am 5), .ref (am 6), .ref (am 7), .ref (am 8), .int 0, .ref (am 9), .int 0, .ref (am 10), .int 0, .ref (am 11), .ref (am 12), .int 0, .int 0, .int 1, .null, .null, .int 0, .int 0, .int 0, .long 0, .int 0, .ref (am 13), .int 0, .int 0, .int 0, .ref (am 14), .ref (am 15), .ref (am 16), .ref (am 17), .int 0, .ref (am 18), .ref (am 19), .ref (am 20)])), ((am 9), .inl (k 0, 8, .inl (fun _ => 0)))]) (hS : va_S A s.heap H locs) (hl : lv_has ls 4 [(3, .int 0), (2, .ref hm), (1, .ref (ad 0)), (0, .ref b)]) : W p l e room_1 s m #[Value.ref b] below meth c H locs 1140 19699 (lw_Z below #[Value.ref b] s) (F0 m 1563 ls []) := by
  obtain ⟨C, hK, hX, hbl, hA, hA2, hbA⟩ := id C0
  obtain ⟨hx, hb, hr, hml, hown, hT, hlk, -⟩ := id C
  refine lv_aload_n hx hb dL_law_1563 rfl (lv_at hl 2 rfl) ?_
  refine lv_aload_n hx hb dL_law_1564 rfl (lv_at hl 3 rfl) ?_
  refine lv_iload_n hx hb dL_law_1565 rfl (lv_at hl 0 rfl) ?_
  refine lv_iconst (v := 1) hx hb dL_law_1566 (by decide) ?_
  refine lv_iadd hx hb dL_law_1567 ?_
  refine gx_cst (v := 1) (by decide) ?_
  refine va_sld hx hb hX hbl hbA hS (gx_vin rfl) dL_law_1568 ?_
  refine gx_cst (v := (xs 1)) rfl ?_
  refine lv_aload_n hx hb dL_law_1569 rfl (lv_at hl 3 rfl) ?_
  refine lv_iload_n hx hb dL_law_1570 rfl (lv_at hl 0 rfl) ?_
  refine lv_iconst (v := 2) hx hb dL_law_1571 (by decide) ?_
  refine lv_iadd hx hb dL_law_1572 ?_
  refine gx_cst (v := 2) (by decide) ?_
  refine va_sld hx hb hX hbl hbA hS (gx_vin rfl) dL_law_1573 ?_
  refine gx_cst (v := (xs 2)) rfl ?_
  refine lv_aload_n hx hb dL_law_1574 rfl (lv_at hl 3 rfl) ?_
  refine lv_iload_n hx hb dL_law_1575 rfl (lv_at hl 0 rfl) ?_
  refine lv_iconst (v := 3) hx hb dL_law_1576 (by decide) ?_
  refine lv_iadd hx hb dL_law_1577 ?_
  refine gx_cst (v := 3) (by decide) ?_
  refine va_sld hx hb hX hbl hbA hS (gx_vin rfl) dL_law_1578 ?_
  refine gx_cst (v := (xs 3)) rfl ?_
  refine gx_ei (wc := ([((ad 0), .inr (4, [.ref (ad 1), .ref (ad 2), .ref (ad 3), .ref (ad 4), .ref (ad 5), .ref (ad 6), .ref (ad 7), .ref (ad 8), .ref (ad 9), .int 0])), ((ad 1), .inr (0, [.ref (ad 10), .ref (ad 11), .ref (ad 12), .ref (ad 13), .ref (ad 14), .ref (ad 15), .ref (ad 16), .ref (ad 17), .ref (ad 18), .int 0, .int 0, .int 0, .int 0, .int 1, .int 0, .int 0, .int 0])), ((ad 9), .inl (k 0, 5, .inl (fun _ => 0)))] : va_W)) (wr := [(hm, .inr (5, [.ref (am 1), .ref (am 2), .ref (am 3), .ref (am 4), .ref (am 5), .ref (am 6), .ref (am 7), .ref (am 8), .int 0, .ref (am 9), .int 0, .ref (am 10), .int 0, .ref (am 11), .ref (am 12), .int 0, .int 0, .int 1, .null, .null, .int 0, .int 0, .int 0, .long 0, .int 0, .ref (am 13), .int 0, .int 0, .int 0, .ref (am 14), .ref (am 15), .ref (am 16), .ref (am 17), .int 0, .ref (am 18), .ref (am 19), .ref (am 20)])), ((am 9), .inl (k 0, 8, .inl (fun _ => 0)))]) (isC := [0, 1, 2]) (isR := [3, 4]) hP hD hS hA rfl rfl (by decide) (by decide) (gx_runV (na := 3) (As := [.int (xs 1), .int (xs 2), .int (xs 3)]) (rest := []) (ci := 4) C hl.1 hK (gx_subP (wc := ([((ad 0), .inr (4, [.ref (ad 1), .ref (ad 2), .ref (ad 3), .ref (ad 4), .ref (ad 5), .ref (ad 6), .ref (ad 7), .ref (ad 8), .ref (ad 9), .int 0])), ((ad 1), .inr (0, [.ref (ad 10), .ref (ad 11), .ref (ad 12), .ref (ad 13), .ref (ad 14), .ref (ad 15), .ref (ad 16), .ref (ad 17), .ref (ad 18), .int 0, .int 0, .int 0, .int 0, .int 1, .int 0, .int 0, .int 0])), ((ad 9), .inl (k 0, 5, .inl (fun _ => 0)))] : va_W)) hP [0, 1, 2] rfl) ((hD.sub (ws' := ([((ad 0), .inr (4, [.ref (ad 1), .ref (ad 2), .ref (ad 3), .ref (ad 4), .ref (ad 5), .ref (ad 6), .ref (ad 7), .ref (ad 8), .ref (ad 9), .int 0])), ((ad 1), .inr (0, [.ref (ad 10), .ref (ad 11), .ref (ad 12), .ref (ad 13), .ref (ad 14), .ref (ad 15), .ref (ad 16), .ref (ad 17), .ref (ad 18), .int 0, .int 0, .int 0, .int 0, .int 1, .int 0, .int 0, .int 0])), ((ad 9), .inl (k 0, 5, .inl (fun _ => 0)))] : va_W)) [0, 1, 2] (by decide) rfl).weaken (fun _ _ _ _ => trivial)) (x_together l D k ad (xs 1) (xs 2) (xs 3) _) gV_R_law_177 (by decide +kernel) rfl rfl ⟨Nat.le_of_ble_eq_true rfl, Nat.le_of_ble_eq_true rfl⟩ rfl rfl rfl rfl (Nat.le_of_ble_eq_true rfl) dL_law_1579 ⟨Nat.le_of_ble_eq_true rfl, Nat.le_of_ble_eq_true rfl⟩) (fun r_3 u_1 H locs h_2 hP hD hS => ?_)
  have h_2 : r_3 = -2 := h_2
  have hP : va_P D gx_cl [(hm, .inr (5, [.ref (am 1), .ref (am 2), .ref (am 3), .ref (am 4), .ref (am 5), .ref (am 6), .ref (am 7), .ref (am 8), .int 0, .ref (am 9), .int 0, .ref (am 10), .int 0, .ref (am 11), .ref (am 12), .int 0, .int 0, .int 1, .null, .null, .int 0, .int 0, .int 0, .long 0, .int 0, .ref (am 13), .int 0, .int 0, .int 0, .ref (am 14), .ref (am 15), .ref (am 16), .ref (am 17), .int 0, .ref (am 18), .ref (am 19), .ref (am 20)])), ((am 9), .inl (k 0, 8, .inl (fun _ => 0)))] H := hP
  have hD : va_D A [(hm, .inr (5, [.ref (am 1), .ref (am 2), .ref (am 3), .ref (am 4), .ref (am 5), .ref (am 6), .ref (am 7), .ref (am 8), .int 0, .ref (am 9), .int 0, .ref (am 10), .int 0, .ref (am 11), .ref (am 12), .int 0, .int 0, .int 1, .null, .null, .int 0, .int 0, .int 0, .long 0, .int 0, .ref (am 13), .int 0, .int 0, .int 0, .ref (am 14), .ref (am 15), .ref (am 16), .ref (am 17), .int 0, .ref (am 18), .ref (am 19), .ref (am 20)])), ((am 9), .inl (k 0, 8, .inl (fun _ => 0)))] := hD
  refine lv_aload_n hx hb dL_law_1582 rfl (lv_at hl 1 rfl) ?_
  refine lv_aload_n hx hb dL_law_1583 rfl (lv_at hl 3 rfl) ?_
  refine lv_iload_n hx hb dL_law_1584 rfl (lv_at hl 0 rfl) ?_
  refine lv_iconst (v := 1) hx hb dL_law_1585 (by decide) ?_
  refine lv_iadd hx hb dL_law_1586 ?_
  refine gx_cst (v := 1) (by decide) ?_
  refine va_sld hx hb hX hbl hbA hS (gx_vin rfl) dL_law_1587 ?_
  refine gx_cst (v := (xs 1)) rfl ?_
  refine lv_aload_n hx hb dL_law_1588 rfl (lv_at hl 3 rfl) ?_
  refine lv_iload_n hx hb dL_law_1589 rfl (lv_at hl 0 rfl) ?_
  refine lv_iconst (v := 2) hx hb dL_law_1590 (by decide) ?_
  refine lv_iadd hx hb dL_law_1591 ?_
  refine gx_cst (v := 2) (by decide) ?_
  refine va_sld hx hb hX hbl hbA hS (gx_vin rfl) dL_law_1592 ?_
  refine gx_cst (v := (xs 2)) rfl ?_
  refine lv_aload_n hx hb dL_law_1593 rfl (lv_at hl 3 rfl) ?_
  refine lv_iload_n hx hb dL_law_1594 rfl (lv_at hl 0 rfl) ?_
  refine lv_iconst (v := 3) hx hb dL_law_1595 (by decide) ?_
  refine lv_iadd hx hb dL_law_1596 ?_
  refine gx_cst (v := 3) (by decide) ?_
  refine va_sld hx hb hX hbl hbA hS (gx_vin rfl) dL_law_1597 ?_
  refine gx_cst (v := (xs 3)) rfl ?_
  refine gx_ei (wc := ([(hm, .inr (5, [.ref (am 1), .ref (am 2), .ref (am 3), .ref (am 4), .ref (am 5), .ref (am 6), .ref (am 7), .ref (am 8), .int 0, .ref (am 9), .int 0, .ref (am 10), .int 0, .ref (am 11), .ref (am 12), .int 0, .int 0, .int 1, .null, .null, .int 0, .int 0, .int 0, .long 0, .int 0, .ref (am 13), .int 0, .int 0, .int 0, .ref (am 14), .ref (am 15), .ref (am 16), .ref (am 17), .int 0, .ref (am 18), .ref (am 19), .ref (am 20)])), ((am 9), .inl (k 0, 8, .inl (fun _ => 0)))] : va_W)) (wr := []) (isC := [0, 1]) (isR := []) hP hD hS hA rfl rfl (by decide) (by decide) (gx_runV (na := 3) (As := [.int (xs 1), .int (xs 2), .int (xs 3)]) (rest := [.int r_3]) (ci := 5) C hl.1 hK (gx_subP (wc := ([(hm, .inr (5, [.ref (am 1), .ref (am 2), .ref (am 3), .ref (am 4), .ref (am 5), .ref (am 6), .ref (am 7), .ref (am 8), .int 0, .ref (am 9), .int 0, .ref (am 10), .int 0, .ref (am 11), .ref (am 12), .int 0, .int 0, .int 1, .null, .null, .int 0, .int 0, .int 0, .long 0, .int 0, .ref (am 13), .int 0, .int 0, .int 0, .ref (am 14), .ref (am 15), .ref (am 16), .ref (am 17), .int 0, .ref (am 18), .ref (am 19), .ref (am 20)])), ((am 9), .inl (k 0, 8, .inl (fun _ => 0)))] : va_W)) hP [0, 1] rfl) ((hD.sub (ws' := ([(hm, .inr (5, [.ref (am 1), .ref (am 2), .ref (am 3), .ref (am 4), .ref (am 5), .ref (am 6), .ref (am 7), .ref (am 8), .int 0, .ref (am 9), .int 0, .ref (am 10), .int 0, .ref (am 11), .ref (am 12), .int 0, .int 0, .int 1, .null, .null, .int 0, .int 0, .int 0, .long 0, .int 0, .ref (am 13), .int 0, .int 0, .int 0, .ref (am 14), .ref (am 15), .ref (am 16), .ref (am 17), .int 0, .ref (am 18), .ref (am 19), .ref (am 20)])), ((am 9), .inl (k 0, 8, .inl (fun _ => 0)))] : va_W)) [0, 1] (by decide) rfl).weaken (fun _ _ _ _ => trivial)) (m_together_pub l D k hm am (xs 1) (xs 2) (xs 3) _) gV_R_law_180 (by decide +kernel) rfl rfl ⟨Nat.le_of_ble_eq_true rfl, Nat.le_of_ble_eq_true rfl⟩ rfl rfl rfl rfl (Nat.le_of_ble_eq_true rfl) dL_law_1598 ⟨Nat.le_of_ble_eq_true rfl, Nat.le_of_ble_eq_true rfl⟩) (fun r_7 u_5 H locs h_6 hP hD hS => ?_)
  have h_6 : r_7 = -2 := h_6
  have hP : va_P D gx_cl [] H := hP
  have hD : va_D A [] := hD
  refine lv_icmp_eq (tgt := 1806) hx hb dL_law_1601 (by decide) (fun c_9 => ?_) (fun c_9 => absurd (h_2.trans h_6.symm) c_9)
  exact lc_next C0 hS (Nat.le_of_ble_eq_true rfl) (Nat.le_of_ble_eq_true rfl) (lv_sub hl [0, 3] rfl)
set_option maxHeartbeats 4000000 in
set_option maxRecDepth 100000 in
theorem lc_frees {p : Program} {l : Launch} {e : Env} {s : State} {m : MethodId} {below : List Frame} {meth : Method} {c : Code} {b : Nat} {xs : Nat → Int32} {D : va_G} {k : Nat → ClassId} {A : Nat → Prop} (C0 : lc_C p s m meth c b xs D k A) (ad : Nat → Nat) (hm : Nat) (am : Nat → Nat) (H : Heap) (locs : List Loc) (ls : Array Slot) (hP : va_P D gx_cl [((ad 0), .inr (4, [.ref (ad 1), .ref (ad 2), .ref (ad 3), .ref (ad 4), .ref (ad 5), .ref (ad 6), .ref (ad 7), .ref (ad 8), .ref (ad 9), .int 0])), ((ad 1), .inr (0, [.ref (ad 10), .ref (ad 11), .ref (ad 12), .ref (ad 13), .ref (ad 14), .ref (ad 15), .ref (ad 16), .ref (ad 17), .ref (ad 18), .int 0, .int 0, .int 0, .int 0, .int 1, .int 0, .int 0, .int 0])), ((ad 9), .inl (k 0, 5, .inl (fun _ => 0))), (hm, .inr (5, [.ref (am 1), .ref (am 2), .ref (am 3), .ref (am 4), .ref (am 5), .ref (am 6), .ref (am 7), .ref (am 8), .int 0, .ref (am 9), .int 0, .ref (am 10), .int 0, .ref (am 11), .ref (am 12), .int 0, .int 0, .int 1, .null, .null, .int 0, .int 0, .int 0, .long 0, .int 0, .ref (am 13), .int 0, .int 0, .int 0, .ref (am 14), .ref (am 15), .ref (am 16), .ref (am 17), .int 0, .ref (am 18), .ref (am 19), .ref (am 20)])), ((am 9), .inl (k 0, 8, .inl (fun _ => 0)))] H) (hD : va_D A [((ad 0), .inr (4, [.ref (ad 1), .ref (ad 2), .ref (ad 3), .ref (ad 4), .ref (ad 5), .ref (ad 6), .ref (ad 7), .ref (ad 8), .ref (ad 9), .int 0])), ((ad 1), .inr (0, [.ref (ad 10), .ref (ad 11), .ref (ad 12), .ref (ad 13), .ref (ad 14), .ref (ad 15), .ref (ad 16), .ref (ad 17), .ref (ad 18), .int 0, .int 0, .int 0, .int 0, .int 1, .int 0, .int 0, .int 0])), ((ad 9), .inl (k 0, 5, .inl (fun _ => 0))), (hm, .inr (5, [.ref (am 1), .ref (am 2), .ref (am 3), .ref (am 4), .ref (am 5), .ref (am 6), .ref (am 7), .ref (am 8), .int 0, .ref (am 9), .int 0, .ref (am 10), .int 0, .ref (am 11), .ref (am 12), .int 0, .int 0, .int 1, .null, .null, .int 0, .int 0, .int 0, .long 0, .int 0, .ref (am 13), .int 0, .int 0, .int 0, .ref (am 14), .ref (am 15), .ref (am 16), .ref (am 17), .int 0, .ref (am 18), .ref (am 19), .ref (am 20)])), ((am 9), .inl (k 0, 8, .inl (fun _ => 0)))]) (hS : va_S A s.heap H locs) (hl : lv_has ls 4 [(3, .int 0), (2, .ref hm), (1, .ref (ad 0)), (0, .ref b)]) : W p l e room_1 s m #[Value.ref b] below meth c H locs 1140 19699 (lw_Z below #[Value.ref b] s) (F0 m 1606 ls []) := by
  obtain ⟨C, hK, hX, hbl, hA, hA2, hbA⟩ := id C0
  obtain ⟨hx, hb, hr, hml, hown, hT, hlk, -⟩ := id C
  refine lv_aload_n hx hb dL_law_1606 rfl (lv_at hl 2 rfl) ?_
  refine lv_aload_n hx hb dL_law_1607 rfl (lv_at hl 3 rfl) ?_
  refine lv_iload_n hx hb dL_law_1608 rfl (lv_at hl 0 rfl) ?_
  refine lv_iconst (v := 1) hx hb dL_law_1609 (by decide) ?_
  refine lv_iadd hx hb dL_law_1610 ?_
  refine gx_cst (v := 1) (by decide) ?_
  refine va_sld hx hb hX hbl hbA hS (gx_vin rfl) dL_law_1611 ?_
  refine gx_cst (v := (xs 1)) rfl ?_
  refine gx_ei (wc := ([((ad 0), .inr (4, [.ref (ad 1), .ref (ad 2), .ref (ad 3), .ref (ad 4), .ref (ad 5), .ref (ad 6), .ref (ad 7), .ref (ad 8), .ref (ad 9), .int 0])), ((ad 1), .inr (0, [.ref (ad 10), .ref (ad 11), .ref (ad 12), .ref (ad 13), .ref (ad 14), .ref (ad 15), .ref (ad 16), .ref (ad 17), .ref (ad 18), .int 0, .int 0, .int 0, .int 0, .int 1, .int 0, .int 0, .int 0])), ((ad 9), .inl (k 0, 5, .inl (fun _ => 0)))] : va_W)) (wr := [(hm, .inr (5, [.ref (am 1), .ref (am 2), .ref (am 3), .ref (am 4), .ref (am 5), .ref (am 6), .ref (am 7), .ref (am 8), .int 0, .ref (am 9), .int 0, .ref (am 10), .int 0, .ref (am 11), .ref (am 12), .int 0, .int 0, .int 1, .null, .null, .int 0, .int 0, .int 0, .long 0, .int 0, .ref (am 13), .int 0, .int 0, .int 0, .ref (am 14), .ref (am 15), .ref (am 16), .ref (am 17), .int 0, .ref (am 18), .ref (am 19), .ref (am 20)])), ((am 9), .inl (k 0, 8, .inl (fun _ => 0)))]) (isC := [0, 1, 2]) (isR := [3, 4]) hP hD hS hA rfl rfl (by decide) (by decide) (gx_runV (na := 1) (As := [.int (xs 1)]) (rest := []) (ci := 4) C hl.1 hK (gx_subP (wc := ([((ad 0), .inr (4, [.ref (ad 1), .ref (ad 2), .ref (ad 3), .ref (ad 4), .ref (ad 5), .ref (ad 6), .ref (ad 7), .ref (ad 8), .ref (ad 9), .int 0])), ((ad 1), .inr (0, [.ref (ad 10), .ref (ad 11), .ref (ad 12), .ref (ad 13), .ref (ad 14), .ref (ad 15), .ref (ad 16), .ref (ad 17), .ref (ad 18), .int 0, .int 0, .int 0, .int 0, .int 1, .int 0, .int 0, .int 0])), ((ad 9), .inl (k 0, 5, .inl (fun _ => 0)))] : va_W)) hP [0, 1, 2] rfl) ((hD.sub (ws' := ([((ad 0), .inr (4, [.ref (ad 1), .ref (ad 2), .ref (ad 3), .ref (ad 4), .ref (ad 5), .ref (ad 6), .ref (ad 7), .ref (ad 8), .ref (ad 9), .int 0])), ((ad 1), .inr (0, [.ref (ad 10), .ref (ad 11), .ref (ad 12), .ref (ad 13), .ref (ad 14), .ref (ad 15), .ref (ad 16), .ref (ad 17), .ref (ad 18), .int 0, .int 0, .int 0, .int 0, .int 1, .int 0, .int 0, .int 0])), ((ad 9), .inl (k 0, 5, .inl (fun _ => 0)))] : va_W)) [0, 1, 2] (by decide) rfl).weaken (fun _ _ _ _ => trivial)) (x_frees l D k ad (xs 1) _) gV_R_law_181 (by decide +kernel) rfl rfl ⟨Nat.le_of_ble_eq_true rfl, Nat.le_of_ble_eq_true rfl⟩ rfl rfl rfl rfl (Nat.le_of_ble_eq_true rfl) dL_law_1612 ⟨Nat.le_of_ble_eq_true rfl, Nat.le_of_ble_eq_true rfl⟩) (fun r_3 u_1 H locs h_2 hP hD hS => ?_)
  have h_2 : r_3 = -2 := h_2
  have hP : va_P D gx_cl [(hm, .inr (5, [.ref (am 1), .ref (am 2), .ref (am 3), .ref (am 4), .ref (am 5), .ref (am 6), .ref (am 7), .ref (am 8), .int 0, .ref (am 9), .int 0, .ref (am 10), .int 0, .ref (am 11), .ref (am 12), .int 0, .int 0, .int 1, .null, .null, .int 0, .int 0, .int 0, .long 0, .int 0, .ref (am 13), .int 0, .int 0, .int 0, .ref (am 14), .ref (am 15), .ref (am 16), .ref (am 17), .int 0, .ref (am 18), .ref (am 19), .ref (am 20)])), ((am 9), .inl (k 0, 8, .inl (fun _ => 0)))] H := hP
  have hD : va_D A [(hm, .inr (5, [.ref (am 1), .ref (am 2), .ref (am 3), .ref (am 4), .ref (am 5), .ref (am 6), .ref (am 7), .ref (am 8), .int 0, .ref (am 9), .int 0, .ref (am 10), .int 0, .ref (am 11), .ref (am 12), .int 0, .int 0, .int 1, .null, .null, .int 0, .int 0, .int 0, .long 0, .int 0, .ref (am 13), .int 0, .int 0, .int 0, .ref (am 14), .ref (am 15), .ref (am 16), .ref (am 17), .int 0, .ref (am 18), .ref (am 19), .ref (am 20)])), ((am 9), .inl (k 0, 8, .inl (fun _ => 0)))] := hD
  refine lv_aload_n hx hb dL_law_1615 rfl (lv_at hl 1 rfl) ?_
  refine lv_aload_n hx hb dL_law_1616 rfl (lv_at hl 3 rfl) ?_
  refine lv_iload_n hx hb dL_law_1617 rfl (lv_at hl 0 rfl) ?_
  refine lv_iconst (v := 1) hx hb dL_law_1618 (by decide) ?_
  refine lv_iadd hx hb dL_law_1619 ?_
  refine gx_cst (v := 1) (by decide) ?_
  refine va_sld hx hb hX hbl hbA hS (gx_vin rfl) dL_law_1620 ?_
  refine gx_cst (v := (xs 1)) rfl ?_
  refine gx_ei (wc := ([(hm, .inr (5, [.ref (am 1), .ref (am 2), .ref (am 3), .ref (am 4), .ref (am 5), .ref (am 6), .ref (am 7), .ref (am 8), .int 0, .ref (am 9), .int 0, .ref (am 10), .int 0, .ref (am 11), .ref (am 12), .int 0, .int 0, .int 1, .null, .null, .int 0, .int 0, .int 0, .long 0, .int 0, .ref (am 13), .int 0, .int 0, .int 0, .ref (am 14), .ref (am 15), .ref (am 16), .ref (am 17), .int 0, .ref (am 18), .ref (am 19), .ref (am 20)])), ((am 9), .inl (k 0, 8, .inl (fun _ => 0)))] : va_W)) (wr := []) (isC := [0, 1]) (isR := []) hP hD hS hA rfl rfl (by decide) (by decide) (gx_runV (na := 1) (As := [.int (xs 1)]) (rest := [.int r_3]) (ci := 5) C hl.1 hK (gx_subP (wc := ([(hm, .inr (5, [.ref (am 1), .ref (am 2), .ref (am 3), .ref (am 4), .ref (am 5), .ref (am 6), .ref (am 7), .ref (am 8), .int 0, .ref (am 9), .int 0, .ref (am 10), .int 0, .ref (am 11), .ref (am 12), .int 0, .int 0, .int 1, .null, .null, .int 0, .int 0, .int 0, .long 0, .int 0, .ref (am 13), .int 0, .int 0, .int 0, .ref (am 14), .ref (am 15), .ref (am 16), .ref (am 17), .int 0, .ref (am 18), .ref (am 19), .ref (am 20)])), ((am 9), .inl (k 0, 8, .inl (fun _ => 0)))] : va_W)) hP [0, 1] rfl) ((hD.sub (ws' := ([(hm, .inr (5, [.ref (am 1), .ref (am 2), .ref (am 3), .ref (am 4), .ref (am 5), .ref (am 6), .ref (am 7), .ref (am 8), .int 0, .ref (am 9), .int 0, .ref (am 10), .int 0, .ref (am 11), .ref (am 12), .int 0, .int 0, .int 1, .null, .null, .int 0, .int 0, .int 0, .long 0, .int 0, .ref (am 13), .int 0, .int 0, .int 0, .ref (am 14), .ref (am 15), .ref (am 16), .ref (am 17), .int 0, .ref (am 18), .ref (am 19), .ref (am 20)])), ((am 9), .inl (k 0, 8, .inl (fun _ => 0)))] : va_W)) [0, 1] (by decide) rfl).weaken (fun _ _ _ _ => trivial)) (m_frees_pub l D k hm am (xs 1) _) gV_R_law_184 (by decide +kernel) rfl rfl ⟨Nat.le_of_ble_eq_true rfl, Nat.le_of_ble_eq_true rfl⟩ rfl rfl rfl rfl (Nat.le_of_ble_eq_true rfl) dL_law_1621 ⟨Nat.le_of_ble_eq_true rfl, Nat.le_of_ble_eq_true rfl⟩) (fun r_7 u_5 H locs h_6 hP hD hS => ?_)
  have h_6 : r_7 = -2 := h_6
  have hP : va_P D gx_cl [] H := hP
  have hD : va_D A [] := hD
  refine lv_icmp_eq (tgt := 1806) hx hb dL_law_1624 (by decide) (fun c_9 => ?_) (fun c_9 => absurd (h_2.trans h_6.symm) c_9)
  exact lc_next C0 hS (Nat.le_of_ble_eq_true rfl) (Nat.le_of_ble_eq_true rfl) (lv_sub hl [0, 3] rfl)
