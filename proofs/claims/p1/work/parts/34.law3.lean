theorem wd_695 : Cond.methodLink "EachRoadOnceLaw" 120 yX6_run ∈ gx_T := gx_in (List.mem_of_getElem? (i := 695) (by decide +kernel)) (by decide +kernel)
theorem wd_696 : Cond.instanceMethod yX6_run ∈ gx_T := gx_in (List.mem_of_getElem? (i := 696) (by decide +kernel)) (by decide +kernel)
theorem wd_697 : Cond.selects RX6 yX6_run yX6_run ∈ gx_T := gx_in (List.mem_of_getElem? (i := 697) (by decide +kernel)) (by decide +kernel)
theorem wd_698 : Cond.code yX6_run cX6_run 7 (some .int) ∈ gx_T := gx_in (List.mem_of_getElem? (i := 698) (by decide +kernel)) (by decide +kernel)
theorem wd_704 : Cond.methodLink "EachRoadOnceLaw" 125 yX6_head ∈ gx_T := gx_in (List.mem_of_getElem? (i := 704) (by decide +kernel)) (by decide +kernel)
theorem wd_705 : Cond.instanceMethod yX6_head ∈ gx_T := gx_in (List.mem_of_getElem? (i := 705) (by decide +kernel)) (by decide +kernel)
theorem wd_706 : Cond.selects RX6 yX6_head yX6_head ∈ gx_T := gx_in (List.mem_of_getElem? (i := 706) (by decide +kernel)) (by decide +kernel)
theorem wd_707 : Cond.code yX6_head cX6_head 6 (some .int) ∈ gx_T := gx_in (List.mem_of_getElem? (i := 707) (by decide +kernel)) (by decide +kernel)
theorem wd_708 : Cond.methodLink "EachRoadOnceLaw" 129 yX6_lives ∈ gx_T := gx_in (List.mem_of_getElem? (i := 708) (by decide +kernel)) (by decide +kernel)
theorem wd_709 : Cond.instanceMethod yX6_lives ∈ gx_T := gx_in (List.mem_of_getElem? (i := 709) (by decide +kernel)) (by decide +kernel)
theorem wd_710 : Cond.selects RX6 yX6_lives yX6_lives ∈ gx_T := gx_in (List.mem_of_getElem? (i := 710) (by decide +kernel)) (by decide +kernel)
theorem wd_711 : Cond.code yX6_lives cX6_lives 5 (some .int) ∈ gx_T := gx_in (List.mem_of_getElem? (i := 711) (by decide +kernel)) (by decide +kernel)
theorem wd_712 : Cond.methodLink "EachRoadOnceLaw" 133 yX6_judge ∈ gx_T := gx_in (List.mem_of_getElem? (i := 712) (by decide +kernel)) (by decide +kernel)
theorem wd_713 : Cond.instanceMethod yX6_judge ∈ gx_T := gx_in (List.mem_of_getElem? (i := 713) (by decide +kernel)) (by decide +kernel)
theorem wd_714 : Cond.selects RX6 yX6_judge yX6_judge ∈ gx_T := gx_in (List.mem_of_getElem? (i := 714) (by decide +kernel)) (by decide +kernel)
theorem wd_715 : Cond.code yX6_judge cX6_judge 5 (some .int) ∈ gx_T := gx_in (List.mem_of_getElem? (i := 715) (by decide +kernel)) (by decide +kernel)
theorem wd_724 : Cond.methodLink "EachRoadOnceLaw" 137 yX6_told ∈ gx_T := gx_in (List.mem_of_getElem? (i := 724) (by decide +kernel)) (by decide +kernel)
theorem wd_725 : Cond.instanceMethod yX6_told ∈ gx_T := gx_in (List.mem_of_getElem? (i := 725) (by decide +kernel)) (by decide +kernel)
theorem wd_726 : Cond.selects RX6 yX6_told yX6_told ∈ gx_T := gx_in (List.mem_of_getElem? (i := 726) (by decide +kernel)) (by decide +kernel)
theorem wd_727 : Cond.code yX6_told cX6_told 6 (some .int) ∈ gx_T := gx_in (List.mem_of_getElem? (i := 727) (by decide +kernel)) (by decide +kernel)
theorem wd_728 : Cond.methodLink "EachRoadOnceLaw" 141 yX6_law ∈ gx_T := gx_in (List.mem_of_getElem? (i := 728) (by decide +kernel)) (by decide +kernel)
theorem wd_729 : Cond.instanceMethod yX6_law ∈ gx_T := gx_in (List.mem_of_getElem? (i := 729) (by decide +kernel)) (by decide +kernel)
theorem wd_730 : Cond.selects RX6 yX6_law yX6_law ∈ gx_T := gx_in (List.mem_of_getElem? (i := 730) (by decide +kernel)) (by decide +kernel)
theorem wd_731 : Cond.code yX6_law cX6_law 4 (some .int) ∈ gx_T := gx_in (List.mem_of_getElem? (i := 731) (by decide +kernel)) (by decide +kernel)
theorem wd_759 : Cond.methodLink "EachRoadOnceLaw" 145 yX6_all ∈ gx_T := gx_in (List.mem_of_getElem? (i := 759) (by decide +kernel)) (by decide +kernel)
theorem wd_760 : Cond.instanceMethod yX6_all ∈ gx_T := gx_in (List.mem_of_getElem? (i := 760) (by decide +kernel)) (by decide +kernel)
theorem wd_761 : Cond.selects RX6 yX6_all yX6_all ∈ gx_T := gx_in (List.mem_of_getElem? (i := 761) (by decide +kernel)) (by decide +kernel)
theorem wd_762 : Cond.code yX6_all cX6_all 2 (some .int) ∈ gx_T := gx_in (List.mem_of_getElem? (i := 762) (by decide +kernel)) (by decide +kernel)
theorem wd_768 : Cond.methodLink "EachRoadOnceLaw" 149 yX6_way ∈ gx_T := gx_in (List.mem_of_getElem? (i := 768) (by decide +kernel)) (by decide +kernel)
theorem wd_769 : Cond.instanceMethod yX6_way ∈ gx_T := gx_in (List.mem_of_getElem? (i := 769) (by decide +kernel)) (by decide +kernel)
theorem wd_770 : Cond.selects RX6 yX6_way yX6_way ∈ gx_T := gx_in (List.mem_of_getElem? (i := 770) (by decide +kernel)) (by decide +kernel)
theorem wd_771 : Cond.code yX6_way cX6_way 4 (some .int) ∈ gx_T := gx_in (List.mem_of_getElem? (i := 771) (by decide +kernel)) (by decide +kernel)
theorem wd_1297 : Cond.methodLink "EachRoadOnceLaw" 124 yX7_run ∈ gx_T := gx_in (List.mem_of_getElem? (i := 1297) (by decide +kernel)) (by decide +kernel)
theorem wd_1298 : Cond.instanceMethod yX7_run ∈ gx_T := gx_in (List.mem_of_getElem? (i := 1298) (by decide +kernel)) (by decide +kernel)
theorem wd_1299 : Cond.selects RX7 yX7_run yX7_run ∈ gx_T := gx_in (List.mem_of_getElem? (i := 1299) (by decide +kernel)) (by decide +kernel)
theorem wd_1300 : Cond.code yX7_run cX7_run 7 (some .int) ∈ gx_T := gx_in (List.mem_of_getElem? (i := 1300) (by decide +kernel)) (by decide +kernel)
theorem wd_1305 : Cond.methodLink "EachRoadOnceLaw" 128 yX7_head ∈ gx_T := gx_in (List.mem_of_getElem? (i := 1305) (by decide +kernel)) (by decide +kernel)
theorem wd_1306 : Cond.instanceMethod yX7_head ∈ gx_T := gx_in (List.mem_of_getElem? (i := 1306) (by decide +kernel)) (by decide +kernel)
theorem wd_1307 : Cond.selects RX7 yX7_head yX7_head ∈ gx_T := gx_in (List.mem_of_getElem? (i := 1307) (by decide +kernel)) (by decide +kernel)
theorem wd_1308 : Cond.code yX7_head cX7_head 6 (some .int) ∈ gx_T := gx_in (List.mem_of_getElem? (i := 1308) (by decide +kernel)) (by decide +kernel)
theorem wd_1309 : Cond.methodLink "EachRoadOnceLaw" 132 yX7_lives ∈ gx_T := gx_in (List.mem_of_getElem? (i := 1309) (by decide +kernel)) (by decide +kernel)
theorem wd_1310 : Cond.instanceMethod yX7_lives ∈ gx_T := gx_in (List.mem_of_getElem? (i := 1310) (by decide +kernel)) (by decide +kernel)
theorem wd_1311 : Cond.selects RX7 yX7_lives yX7_lives ∈ gx_T := gx_in (List.mem_of_getElem? (i := 1311) (by decide +kernel)) (by decide +kernel)
theorem wd_1312 : Cond.code yX7_lives cX7_lives 5 (some .int) ∈ gx_T := gx_in (List.mem_of_getElem? (i := 1312) (by decide +kernel)) (by decide +kernel)
theorem wd_1313 : Cond.methodLink "EachRoadOnceLaw" 136 yX7_judge ∈ gx_T := gx_in (List.mem_of_getElem? (i := 1313) (by decide +kernel)) (by decide +kernel)
theorem wd_1314 : Cond.instanceMethod yX7_judge ∈ gx_T := gx_in (List.mem_of_getElem? (i := 1314) (by decide +kernel)) (by decide +kernel)
theorem wd_1315 : Cond.selects RX7 yX7_judge yX7_judge ∈ gx_T := gx_in (List.mem_of_getElem? (i := 1315) (by decide +kernel)) (by decide +kernel)
theorem wd_1316 : Cond.code yX7_judge cX7_judge 5 (some .int) ∈ gx_T := gx_in (List.mem_of_getElem? (i := 1316) (by decide +kernel)) (by decide +kernel)
theorem wd_1325 : Cond.methodLink "EachRoadOnceLaw" 140 yX7_told ∈ gx_T := gx_in (List.mem_of_getElem? (i := 1325) (by decide +kernel)) (by decide +kernel)
theorem wd_1326 : Cond.instanceMethod yX7_told ∈ gx_T := gx_in (List.mem_of_getElem? (i := 1326) (by decide +kernel)) (by decide +kernel)
theorem wd_1327 : Cond.selects RX7 yX7_told yX7_told ∈ gx_T := gx_in (List.mem_of_getElem? (i := 1327) (by decide +kernel)) (by decide +kernel)
theorem wd_1328 : Cond.code yX7_told cX7_told 6 (some .int) ∈ gx_T := gx_in (List.mem_of_getElem? (i := 1328) (by decide +kernel)) (by decide +kernel)
theorem wd_1330 : Cond.methodLink "EachRoadOnceLaw" 144 yX7_law ∈ gx_T := gx_in (List.mem_of_getElem? (i := 1330) (by decide +kernel)) (by decide +kernel)
theorem wd_1331 : Cond.instanceMethod yX7_law ∈ gx_T := gx_in (List.mem_of_getElem? (i := 1331) (by decide +kernel)) (by decide +kernel)
theorem wd_1332 : Cond.selects RX7 yX7_law yX7_law ∈ gx_T := gx_in (List.mem_of_getElem? (i := 1332) (by decide +kernel)) (by decide +kernel)
theorem wd_1333 : Cond.code yX7_law cX7_law 7 (some .int) ∈ gx_T := gx_in (List.mem_of_getElem? (i := 1333) (by decide +kernel)) (by decide +kernel)
theorem wd_1349 : Cond.methodLink "EachRoadOnceLaw" 148 yX7_all ∈ gx_T := gx_in (List.mem_of_getElem? (i := 1349) (by decide +kernel)) (by decide +kernel)
theorem wd_1350 : Cond.instanceMethod yX7_all ∈ gx_T := gx_in (List.mem_of_getElem? (i := 1350) (by decide +kernel)) (by decide +kernel)
theorem wd_1351 : Cond.selects RX7 yX7_all yX7_all ∈ gx_T := gx_in (List.mem_of_getElem? (i := 1351) (by decide +kernel)) (by decide +kernel)
theorem wd_1352 : Cond.code yX7_all cX7_all 2 (some .int) ∈ gx_T := gx_in (List.mem_of_getElem? (i := 1352) (by decide +kernel)) (by decide +kernel)
theorem wd_1357 : Cond.methodLink "EachRoadOnceLaw" 152 yX7_way ∈ gx_T := gx_in (List.mem_of_getElem? (i := 1357) (by decide +kernel)) (by decide +kernel)
theorem wd_1358 : Cond.instanceMethod yX7_way ∈ gx_T := gx_in (List.mem_of_getElem? (i := 1358) (by decide +kernel)) (by decide +kernel)
theorem wd_1359 : Cond.selects RX7 yX7_way yX7_way ∈ gx_T := gx_in (List.mem_of_getElem? (i := 1359) (by decide +kernel)) (by decide +kernel)
theorem wd_1360 : Cond.code yX7_way cX7_way 7 (some .int) ∈ gx_T := gx_in (List.mem_of_getElem? (i := 1360) (by decide +kernel)) (by decide +kernel)
theorem gV_R_law_120 : GoodIn gx_T (wsV R_law 120 RX6 yX6_run (.code yX6_run cX6_run 7 (some .int) :: gx_T)) := gx_gV wd_695 wd_696 wd_697 wd_69 wd_698
theorem gV_R_law_124 : GoodIn gx_T (wsV R_law 124 RX7 yX7_run (.code yX7_run cX7_run 7 (some .int) :: gx_T)) := gx_gV wd_1297 wd_1298 wd_1299 wd_75 wd_1300
theorem gV_R_law_125 : GoodIn gx_T (wsV R_law 125 RX6 yX6_head (.code yX6_head cX6_head 6 (some .int) :: gx_T)) := gx_gV wd_704 wd_705 wd_706 wd_69 wd_707
theorem gV_R_law_128 : GoodIn gx_T (wsV R_law 128 RX7 yX7_head (.code yX7_head cX7_head 6 (some .int) :: gx_T)) := gx_gV wd_1305 wd_1306 wd_1307 wd_75 wd_1308
theorem gV_R_law_129 : GoodIn gx_T (wsV R_law 129 RX6 yX6_lives (.code yX6_lives cX6_lives 5 (some .int) :: gx_T)) := gx_gV wd_708 wd_709 wd_710 wd_69 wd_711
theorem gV_R_law_132 : GoodIn gx_T (wsV R_law 132 RX7 yX7_lives (.code yX7_lives cX7_lives 5 (some .int) :: gx_T)) := gx_gV wd_1309 wd_1310 wd_1311 wd_75 wd_1312
theorem gV_R_law_133 : GoodIn gx_T (wsV R_law 133 RX6 yX6_judge (.code yX6_judge cX6_judge 5 (some .int) :: gx_T)) := gx_gV wd_712 wd_713 wd_714 wd_69 wd_715
theorem gV_R_law_136 : GoodIn gx_T (wsV R_law 136 RX7 yX7_judge (.code yX7_judge cX7_judge 5 (some .int) :: gx_T)) := gx_gV wd_1313 wd_1314 wd_1315 wd_75 wd_1316
theorem gV_R_law_137 : GoodIn gx_T (wsV R_law 137 RX6 yX6_told (.code yX6_told cX6_told 6 (some .int) :: gx_T)) := gx_gV wd_724 wd_725 wd_726 wd_69 wd_727
theorem gV_R_law_140 : GoodIn gx_T (wsV R_law 140 RX7 yX7_told (.code yX7_told cX7_told 6 (some .int) :: gx_T)) := gx_gV wd_1325 wd_1326 wd_1327 wd_75 wd_1328
theorem gV_R_law_141 : GoodIn gx_T (wsV R_law 141 RX6 yX6_law (.code yX6_law cX6_law 4 (some .int) :: gx_T)) := gx_gV wd_728 wd_729 wd_730 wd_69 wd_731
theorem gV_R_law_144 : GoodIn gx_T (wsV R_law 144 RX7 yX7_law (.code yX7_law cX7_law 7 (some .int) :: gx_T)) := gx_gV wd_1330 wd_1331 wd_1332 wd_75 wd_1333
theorem gV_R_law_145 : GoodIn gx_T (wsV R_law 145 RX6 yX6_all (.code yX6_all cX6_all 2 (some .int) :: gx_T)) := gx_gV wd_759 wd_760 wd_761 wd_69 wd_762
theorem gV_R_law_148 : GoodIn gx_T (wsV R_law 148 RX7 yX7_all (.code yX7_all cX7_all 2 (some .int) :: gx_T)) := gx_gV wd_1349 wd_1350 wd_1351 wd_75 wd_1352
theorem gV_R_law_149 : GoodIn gx_T (wsV R_law 149 RX6 yX6_way (.code yX6_way cX6_way 4 (some .int) :: gx_T)) := gx_gV wd_768 wd_769 wd_770 wd_69 wd_771
theorem gV_R_law_152 : GoodIn gx_T (wsV R_law 152 RX7 yX7_way (.code yX7_way cX7_way 7 (some .int) :: gx_T)) := gx_gV wd_1357 wd_1358 wd_1359 wd_75 wd_1360
theorem dL_law_1041 : decode code 1041 = .ok (.aload_n 1, 1) := by decide +kernel
theorem dL_law_1042 : decode code 1042 = .ok (.aload_n 0, 1) := by decide +kernel
theorem dL_law_1043 : decode code 1043 = .ok (.iload_n 3, 1) := by decide +kernel
theorem dL_law_1044 : decode code 1044 = .ok (.iconst 1, 1) := by decide +kernel
theorem dL_law_1045 : decode code 1045 = .ok (.iadd, 1) := by decide +kernel
theorem dL_law_1046 : decode code 1046 = .ok (.iaload, 1) := by decide +kernel
theorem dL_law_1047 : decode code 1047 = .ok (.aload_n 0, 1) := by decide +kernel
theorem dL_law_1048 : decode code 1048 = .ok (.iload_n 3, 1) := by decide +kernel
theorem dL_law_1049 : decode code 1049 = .ok (.iconst 2, 1) := by decide +kernel
theorem dL_law_1050 : decode code 1050 = .ok (.iadd, 1) := by decide +kernel
theorem dL_law_1051 : decode code 1051 = .ok (.iaload, 1) := by decide +kernel
theorem dL_law_1052 : decode code 1052 = .ok (.aload_n 0, 1) := by decide +kernel
theorem dL_law_1053 : decode code 1053 = .ok (.iload_n 3, 1) := by decide +kernel
theorem dL_law_1054 : decode code 1054 = .ok (.iconst 3, 1) := by decide +kernel
theorem dL_law_1055 : decode code 1055 = .ok (.iadd, 1) := by decide +kernel
theorem dL_law_1056 : decode code 1056 = .ok (.iaload, 1) := by decide +kernel
theorem dL_law_1057 : decode code 1057 = .ok (.aload_n 0, 1) := by decide +kernel
theorem dL_law_1058 : decode code 1058 = .ok (.iload_n 3, 1) := by decide +kernel
theorem dL_law_1059 : decode code 1059 = .ok (.iconst 4, 1) := by decide +kernel
theorem dL_law_1060 : decode code 1060 = .ok (.iadd, 1) := by decide +kernel
theorem dL_law_1061 : decode code 1061 = .ok (.iaload, 1) := by decide +kernel
theorem dL_law_1062 : decode code 1062 = .ok (.invokevirtual 120, 3) := by decide +kernel
theorem dL_law_1065 : decode code 1065 = .ok (.aload_n 2, 1) := by decide +kernel
theorem dL_law_1066 : decode code 1066 = .ok (.aload_n 0, 1) := by decide +kernel
theorem dL_law_1067 : decode code 1067 = .ok (.iload_n 3, 1) := by decide +kernel
theorem dL_law_1068 : decode code 1068 = .ok (.iconst 1, 1) := by decide +kernel
theorem dL_law_1069 : decode code 1069 = .ok (.iadd, 1) := by decide +kernel
theorem dL_law_1070 : decode code 1070 = .ok (.iaload, 1) := by decide +kernel
theorem dL_law_1071 : decode code 1071 = .ok (.aload_n 0, 1) := by decide +kernel
theorem dL_law_1072 : decode code 1072 = .ok (.iload_n 3, 1) := by decide +kernel
theorem dL_law_1073 : decode code 1073 = .ok (.iconst 2, 1) := by decide +kernel
theorem dL_law_1074 : decode code 1074 = .ok (.iadd, 1) := by decide +kernel
theorem dL_law_1075 : decode code 1075 = .ok (.iaload, 1) := by decide +kernel
theorem dL_law_1076 : decode code 1076 = .ok (.aload_n 0, 1) := by decide +kernel
theorem dL_law_1077 : decode code 1077 = .ok (.iload_n 3, 1) := by decide +kernel
theorem dL_law_1078 : decode code 1078 = .ok (.iconst 3, 1) := by decide +kernel
theorem dL_law_1079 : decode code 1079 = .ok (.iadd, 1) := by decide +kernel
theorem dL_law_1080 : decode code 1080 = .ok (.iaload, 1) := by decide +kernel
theorem dL_law_1081 : decode code 1081 = .ok (.aload_n 0, 1) := by decide +kernel
theorem dL_law_1082 : decode code 1082 = .ok (.iload_n 3, 1) := by decide +kernel
theorem dL_law_1083 : decode code 1083 = .ok (.iconst 4, 1) := by decide +kernel
theorem dL_law_1084 : decode code 1084 = .ok (.iadd, 1) := by decide +kernel
theorem dL_law_1085 : decode code 1085 = .ok (.iaload, 1) := by decide +kernel
theorem dL_law_1086 : decode code 1086 = .ok (.invokevirtual 124, 3) := by decide +kernel
theorem dL_law_1089 : decode code 1089 = .ok (.if_icmp .eq 717, 3) := by decide +kernel
theorem dL_law_1094 : decode code 1094 = .ok (.aload_n 1, 1) := by decide +kernel
theorem dL_law_1095 : decode code 1095 = .ok (.aload_n 0, 1) := by decide +kernel
theorem dL_law_1096 : decode code 1096 = .ok (.iload_n 3, 1) := by decide +kernel
theorem dL_law_1097 : decode code 1097 = .ok (.iconst 1, 1) := by decide +kernel
theorem dL_law_1098 : decode code 1098 = .ok (.iadd, 1) := by decide +kernel
theorem dL_law_1099 : decode code 1099 = .ok (.iaload, 1) := by decide +kernel
theorem dL_law_1100 : decode code 1100 = .ok (.invokevirtual 125, 3) := by decide +kernel
theorem dL_law_1103 : decode code 1103 = .ok (.aload_n 2, 1) := by decide +kernel
theorem dL_law_1104 : decode code 1104 = .ok (.aload_n 0, 1) := by decide +kernel
theorem dL_law_1105 : decode code 1105 = .ok (.iload_n 3, 1) := by decide +kernel
theorem dL_law_1106 : decode code 1106 = .ok (.iconst 1, 1) := by decide +kernel
theorem dL_law_1107 : decode code 1107 = .ok (.iadd, 1) := by decide +kernel
theorem dL_law_1108 : decode code 1108 = .ok (.iaload, 1) := by decide +kernel
theorem dL_law_1109 : decode code 1109 = .ok (.invokevirtual 128, 3) := by decide +kernel
theorem dL_law_1112 : decode code 1112 = .ok (.if_icmp .eq 694, 3) := by decide +kernel
theorem dL_law_1117 : decode code 1117 = .ok (.aload_n 1, 1) := by decide +kernel
theorem dL_law_1118 : decode code 1118 = .ok (.aload_n 0, 1) := by decide +kernel
theorem dL_law_1119 : decode code 1119 = .ok (.iload_n 3, 1) := by decide +kernel
theorem dL_law_1120 : decode code 1120 = .ok (.iconst 1, 1) := by decide +kernel
theorem dL_law_1121 : decode code 1121 = .ok (.iadd, 1) := by decide +kernel
theorem dL_law_1122 : decode code 1122 = .ok (.iaload, 1) := by decide +kernel
theorem dL_law_1123 : decode code 1123 = .ok (.aload_n 0, 1) := by decide +kernel
theorem dL_law_1124 : decode code 1124 = .ok (.iload_n 3, 1) := by decide +kernel
theorem dL_law_1125 : decode code 1125 = .ok (.iconst 2, 1) := by decide +kernel
theorem dL_law_1126 : decode code 1126 = .ok (.iadd, 1) := by decide +kernel
theorem dL_law_1127 : decode code 1127 = .ok (.iaload, 1) := by decide +kernel
theorem dL_law_1128 : decode code 1128 = .ok (.aload_n 0, 1) := by decide +kernel
theorem dL_law_1129 : decode code 1129 = .ok (.iload_n 3, 1) := by decide +kernel
theorem dL_law_1130 : decode code 1130 = .ok (.iconst 3, 1) := by decide +kernel
theorem dL_law_1131 : decode code 1131 = .ok (.iadd, 1) := by decide +kernel
theorem dL_law_1132 : decode code 1132 = .ok (.iaload, 1) := by decide +kernel
theorem dL_law_1133 : decode code 1133 = .ok (.invokevirtual 129, 3) := by decide +kernel
theorem dL_law_1136 : decode code 1136 = .ok (.aload_n 2, 1) := by decide +kernel
theorem dL_law_1137 : decode code 1137 = .ok (.aload_n 0, 1) := by decide +kernel
theorem dL_law_1138 : decode code 1138 = .ok (.iload_n 3, 1) := by decide +kernel
theorem dL_law_1139 : decode code 1139 = .ok (.iconst 1, 1) := by decide +kernel
theorem dL_law_1140 : decode code 1140 = .ok (.iadd, 1) := by decide +kernel
theorem dL_law_1141 : decode code 1141 = .ok (.iaload, 1) := by decide +kernel
theorem dL_law_1142 : decode code 1142 = .ok (.aload_n 0, 1) := by decide +kernel
theorem dL_law_1143 : decode code 1143 = .ok (.iload_n 3, 1) := by decide +kernel
theorem dL_law_1144 : decode code 1144 = .ok (.iconst 2, 1) := by decide +kernel
theorem dL_law_1145 : decode code 1145 = .ok (.iadd, 1) := by decide +kernel
theorem dL_law_1146 : decode code 1146 = .ok (.iaload, 1) := by decide +kernel
theorem dL_law_1147 : decode code 1147 = .ok (.aload_n 0, 1) := by decide +kernel
theorem dL_law_1148 : decode code 1148 = .ok (.iload_n 3, 1) := by decide +kernel
theorem dL_law_1149 : decode code 1149 = .ok (.iconst 3, 1) := by decide +kernel
theorem dL_law_1150 : decode code 1150 = .ok (.iadd, 1) := by decide +kernel
theorem dL_law_1151 : decode code 1151 = .ok (.iaload, 1) := by decide +kernel
theorem dL_law_1152 : decode code 1152 = .ok (.invokevirtual 132, 3) := by decide +kernel
theorem dL_law_1155 : decode code 1155 = .ok (.if_icmp .eq 651, 3) := by decide +kernel
theorem dL_law_1160 : decode code 1160 = .ok (.aload_n 1, 1) := by decide +kernel
theorem dL_law_1161 : decode code 1161 = .ok (.aload_n 0, 1) := by decide +kernel
theorem dL_law_1162 : decode code 1162 = .ok (.iload_n 3, 1) := by decide +kernel
theorem dL_law_1163 : decode code 1163 = .ok (.iconst 1, 1) := by decide +kernel
theorem dL_law_1164 : decode code 1164 = .ok (.iadd, 1) := by decide +kernel
theorem dL_law_1165 : decode code 1165 = .ok (.iaload, 1) := by decide +kernel
theorem dL_law_1166 : decode code 1166 = .ok (.aload_n 0, 1) := by decide +kernel
theorem dL_law_1167 : decode code 1167 = .ok (.iload_n 3, 1) := by decide +kernel
theorem dL_law_1168 : decode code 1168 = .ok (.iconst 2, 1) := by decide +kernel
theorem dL_law_1169 : decode code 1169 = .ok (.iadd, 1) := by decide +kernel
theorem dL_law_1170 : decode code 1170 = .ok (.iaload, 1) := by decide +kernel
theorem dL_law_1171 : decode code 1171 = .ok (.aload_n 0, 1) := by decide +kernel
theorem dL_law_1172 : decode code 1172 = .ok (.iload_n 3, 1) := by decide +kernel
theorem dL_law_1173 : decode code 1173 = .ok (.iconst 3, 1) := by decide +kernel
theorem dL_law_1174 : decode code 1174 = .ok (.iadd, 1) := by decide +kernel
theorem dL_law_1175 : decode code 1175 = .ok (.iaload, 1) := by decide +kernel
theorem dL_law_1176 : decode code 1176 = .ok (.invokevirtual 133, 3) := by decide +kernel
theorem dL_law_1179 : decode code 1179 = .ok (.aload_n 2, 1) := by decide +kernel
theorem dL_law_1180 : decode code 1180 = .ok (.aload_n 0, 1) := by decide +kernel
theorem dL_law_1181 : decode code 1181 = .ok (.iload_n 3, 1) := by decide +kernel
theorem dL_law_1182 : decode code 1182 = .ok (.iconst 1, 1) := by decide +kernel
theorem dL_law_1183 : decode code 1183 = .ok (.iadd, 1) := by decide +kernel
theorem dL_law_1184 : decode code 1184 = .ok (.iaload, 1) := by decide +kernel
theorem dL_law_1185 : decode code 1185 = .ok (.aload_n 0, 1) := by decide +kernel
theorem dL_law_1186 : decode code 1186 = .ok (.iload_n 3, 1) := by decide +kernel
theorem dL_law_1187 : decode code 1187 = .ok (.iconst 2, 1) := by decide +kernel
theorem dL_law_1188 : decode code 1188 = .ok (.iadd, 1) := by decide +kernel
theorem dL_law_1189 : decode code 1189 = .ok (.iaload, 1) := by decide +kernel
theorem dL_law_1190 : decode code 1190 = .ok (.aload_n 0, 1) := by decide +kernel
theorem dL_law_1191 : decode code 1191 = .ok (.iload_n 3, 1) := by decide +kernel
theorem dL_law_1192 : decode code 1192 = .ok (.iconst 3, 1) := by decide +kernel
theorem dL_law_1193 : decode code 1193 = .ok (.iadd, 1) := by decide +kernel
theorem dL_law_1194 : decode code 1194 = .ok (.iaload, 1) := by decide +kernel
theorem dL_law_1195 : decode code 1195 = .ok (.invokevirtual 136, 3) := by decide +kernel
theorem dL_law_1198 : decode code 1198 = .ok (.if_icmp .eq 608, 3) := by decide +kernel
theorem dL_law_1203 : decode code 1203 = .ok (.aload_n 1, 1) := by decide +kernel
theorem dL_law_1204 : decode code 1204 = .ok (.aload_n 0, 1) := by decide +kernel
theorem dL_law_1205 : decode code 1205 = .ok (.iload_n 3, 1) := by decide +kernel
theorem dL_law_1206 : decode code 1206 = .ok (.iconst 1, 1) := by decide +kernel
theorem dL_law_1207 : decode code 1207 = .ok (.iadd, 1) := by decide +kernel
theorem dL_law_1208 : decode code 1208 = .ok (.iaload, 1) := by decide +kernel
theorem dL_law_1209 : decode code 1209 = .ok (.aload_n 0, 1) := by decide +kernel
theorem dL_law_1210 : decode code 1210 = .ok (.iload_n 3, 1) := by decide +kernel
theorem dL_law_1211 : decode code 1211 = .ok (.iconst 2, 1) := by decide +kernel
theorem dL_law_1212 : decode code 1212 = .ok (.iadd, 1) := by decide +kernel
theorem dL_law_1213 : decode code 1213 = .ok (.iaload, 1) := by decide +kernel
theorem dL_law_1214 : decode code 1214 = .ok (.aload_n 0, 1) := by decide +kernel
theorem dL_law_1215 : decode code 1215 = .ok (.iload_n 3, 1) := by decide +kernel
theorem dL_law_1216 : decode code 1216 = .ok (.iconst 3, 1) := by decide +kernel
theorem dL_law_1217 : decode code 1217 = .ok (.iadd, 1) := by decide +kernel
theorem dL_law_1218 : decode code 1218 = .ok (.iaload, 1) := by decide +kernel
theorem dL_law_1219 : decode code 1219 = .ok (.aload_n 0, 1) := by decide +kernel
theorem dL_law_1220 : decode code 1220 = .ok (.iload_n 3, 1) := by decide +kernel
theorem dL_law_1221 : decode code 1221 = .ok (.iconst 4, 1) := by decide +kernel
theorem dL_law_1222 : decode code 1222 = .ok (.iadd, 1) := by decide +kernel
theorem dL_law_1223 : decode code 1223 = .ok (.iaload, 1) := by decide +kernel
theorem dL_law_1224 : decode code 1224 = .ok (.invokevirtual 137, 3) := by decide +kernel
theorem dL_law_1227 : decode code 1227 = .ok (.aload_n 2, 1) := by decide +kernel
theorem dL_law_1228 : decode code 1228 = .ok (.aload_n 0, 1) := by decide +kernel
theorem dL_law_1229 : decode code 1229 = .ok (.iload_n 3, 1) := by decide +kernel
theorem dL_law_1230 : decode code 1230 = .ok (.iconst 1, 1) := by decide +kernel
theorem dL_law_1231 : decode code 1231 = .ok (.iadd, 1) := by decide +kernel
theorem dL_law_1232 : decode code 1232 = .ok (.iaload, 1) := by decide +kernel
theorem dL_law_1233 : decode code 1233 = .ok (.aload_n 0, 1) := by decide +kernel
theorem dL_law_1234 : decode code 1234 = .ok (.iload_n 3, 1) := by decide +kernel
theorem dL_law_1235 : decode code 1235 = .ok (.iconst 2, 1) := by decide +kernel
theorem dL_law_1236 : decode code 1236 = .ok (.iadd, 1) := by decide +kernel
theorem dL_law_1237 : decode code 1237 = .ok (.iaload, 1) := by decide +kernel
theorem dL_law_1238 : decode code 1238 = .ok (.aload_n 0, 1) := by decide +kernel
theorem dL_law_1239 : decode code 1239 = .ok (.iload_n 3, 1) := by decide +kernel
theorem dL_law_1240 : decode code 1240 = .ok (.iconst 3, 1) := by decide +kernel
theorem dL_law_1241 : decode code 1241 = .ok (.iadd, 1) := by decide +kernel
theorem dL_law_1242 : decode code 1242 = .ok (.iaload, 1) := by decide +kernel
theorem dL_law_1243 : decode code 1243 = .ok (.aload_n 0, 1) := by decide +kernel
theorem dL_law_1244 : decode code 1244 = .ok (.iload_n 3, 1) := by decide +kernel
theorem dL_law_1245 : decode code 1245 = .ok (.iconst 4, 1) := by decide +kernel
theorem dL_law_1246 : decode code 1246 = .ok (.iadd, 1) := by decide +kernel
theorem dL_law_1247 : decode code 1247 = .ok (.iaload, 1) := by decide +kernel
theorem dL_law_1248 : decode code 1248 = .ok (.invokevirtual 140, 3) := by decide +kernel
theorem dL_law_1251 : decode code 1251 = .ok (.if_icmp .eq 555, 3) := by decide +kernel
theorem dL_law_1256 : decode code 1256 = .ok (.aload_n 1, 1) := by decide +kernel
theorem dL_law_1257 : decode code 1257 = .ok (.aload_n 0, 1) := by decide +kernel
theorem dL_law_1258 : decode code 1258 = .ok (.iload_n 3, 1) := by decide +kernel
theorem dL_law_1259 : decode code 1259 = .ok (.iconst 1, 1) := by decide +kernel
theorem dL_law_1260 : decode code 1260 = .ok (.iadd, 1) := by decide +kernel
theorem dL_law_1261 : decode code 1261 = .ok (.iaload, 1) := by decide +kernel
theorem dL_law_1262 : decode code 1262 = .ok (.aload_n 0, 1) := by decide +kernel
theorem dL_law_1263 : decode code 1263 = .ok (.iload_n 3, 1) := by decide +kernel
theorem dL_law_1264 : decode code 1264 = .ok (.iconst 2, 1) := by decide +kernel
theorem dL_law_1265 : decode code 1265 = .ok (.iadd, 1) := by decide +kernel
theorem dL_law_1266 : decode code 1266 = .ok (.iaload, 1) := by decide +kernel
theorem dL_law_1267 : decode code 1267 = .ok (.invokevirtual 141, 3) := by decide +kernel
theorem dL_law_1270 : decode code 1270 = .ok (.aload_n 2, 1) := by decide +kernel
theorem dL_law_1271 : decode code 1271 = .ok (.aload_n 0, 1) := by decide +kernel
theorem dL_law_1272 : decode code 1272 = .ok (.iload_n 3, 1) := by decide +kernel
theorem dL_law_1273 : decode code 1273 = .ok (.iconst 1, 1) := by decide +kernel
theorem dL_law_1274 : decode code 1274 = .ok (.iadd, 1) := by decide +kernel
theorem dL_law_1275 : decode code 1275 = .ok (.iaload, 1) := by decide +kernel
theorem dL_law_1276 : decode code 1276 = .ok (.aload_n 0, 1) := by decide +kernel
theorem dL_law_1277 : decode code 1277 = .ok (.iload_n 3, 1) := by decide +kernel
theorem dL_law_1278 : decode code 1278 = .ok (.iconst 2, 1) := by decide +kernel
theorem dL_law_1279 : decode code 1279 = .ok (.iadd, 1) := by decide +kernel
theorem dL_law_1280 : decode code 1280 = .ok (.iaload, 1) := by decide +kernel
theorem dL_law_1281 : decode code 1281 = .ok (.invokevirtual 144, 3) := by decide +kernel
theorem dL_law_1284 : decode code 1284 = .ok (.if_icmp .eq 522, 3) := by decide +kernel
theorem dL_law_1289 : decode code 1289 = .ok (.aload_n 1, 1) := by decide +kernel
theorem dL_law_1290 : decode code 1290 = .ok (.aload_n 0, 1) := by decide +kernel
theorem dL_law_1291 : decode code 1291 = .ok (.iload_n 3, 1) := by decide +kernel
theorem dL_law_1292 : decode code 1292 = .ok (.iconst 1, 1) := by decide +kernel
theorem dL_law_1293 : decode code 1293 = .ok (.iadd, 1) := by decide +kernel
theorem dL_law_1294 : decode code 1294 = .ok (.iaload, 1) := by decide +kernel
theorem dL_law_1295 : decode code 1295 = .ok (.invokevirtual 145, 3) := by decide +kernel
theorem dL_law_1298 : decode code 1298 = .ok (.aload_n 2, 1) := by decide +kernel
theorem dL_law_1299 : decode code 1299 = .ok (.aload_n 0, 1) := by decide +kernel
theorem dL_law_1300 : decode code 1300 = .ok (.iload_n 3, 1) := by decide +kernel
theorem dL_law_1301 : decode code 1301 = .ok (.iconst 1, 1) := by decide +kernel
theorem dL_law_1302 : decode code 1302 = .ok (.iadd, 1) := by decide +kernel
theorem dL_law_1303 : decode code 1303 = .ok (.iaload, 1) := by decide +kernel
theorem dL_law_1304 : decode code 1304 = .ok (.invokevirtual 148, 3) := by decide +kernel
theorem dL_law_1307 : decode code 1307 = .ok (.if_icmp .eq 499, 3) := by decide +kernel
theorem dL_law_1312 : decode code 1312 = .ok (.aload_n 1, 1) := by decide +kernel
theorem dL_law_1313 : decode code 1313 = .ok (.aload_n 0, 1) := by decide +kernel
theorem dL_law_1314 : decode code 1314 = .ok (.iload_n 3, 1) := by decide +kernel
theorem dL_law_1315 : decode code 1315 = .ok (.iconst 1, 1) := by decide +kernel
theorem dL_law_1316 : decode code 1316 = .ok (.iadd, 1) := by decide +kernel
theorem dL_law_1317 : decode code 1317 = .ok (.iaload, 1) := by decide +kernel
theorem dL_law_1318 : decode code 1318 = .ok (.aload_n 0, 1) := by decide +kernel
theorem dL_law_1319 : decode code 1319 = .ok (.iload_n 3, 1) := by decide +kernel
theorem dL_law_1320 : decode code 1320 = .ok (.iconst 2, 1) := by decide +kernel
theorem dL_law_1321 : decode code 1321 = .ok (.iadd, 1) := by decide +kernel
theorem dL_law_1322 : decode code 1322 = .ok (.iaload, 1) := by decide +kernel
theorem dL_law_1323 : decode code 1323 = .ok (.invokevirtual 149, 3) := by decide +kernel
theorem dL_law_1326 : decode code 1326 = .ok (.aload_n 2, 1) := by decide +kernel
theorem dL_law_1327 : decode code 1327 = .ok (.aload_n 0, 1) := by decide +kernel
theorem dL_law_1328 : decode code 1328 = .ok (.iload_n 3, 1) := by decide +kernel
theorem dL_law_1329 : decode code 1329 = .ok (.iconst 1, 1) := by decide +kernel
theorem dL_law_1330 : decode code 1330 = .ok (.iadd, 1) := by decide +kernel
theorem dL_law_1331 : decode code 1331 = .ok (.iaload, 1) := by decide +kernel
theorem dL_law_1332 : decode code 1332 = .ok (.aload_n 0, 1) := by decide +kernel
theorem dL_law_1333 : decode code 1333 = .ok (.iload_n 3, 1) := by decide +kernel
theorem dL_law_1334 : decode code 1334 = .ok (.iconst 2, 1) := by decide +kernel
theorem dL_law_1335 : decode code 1335 = .ok (.iadd, 1) := by decide +kernel
theorem dL_law_1336 : decode code 1336 = .ok (.iaload, 1) := by decide +kernel
theorem dL_law_1337 : decode code 1337 = .ok (.invokevirtual 152, 3) := by decide +kernel
theorem dL_law_1340 : decode code 1340 = .ok (.if_icmp .eq 466, 3) := by decide +kernel
set_option maxHeartbeats 4000000 in
set_option maxRecDepth 100000 in
theorem lc_run {p : Program} {l : Launch} {e : Env} {s : State} {m : MethodId} {below : List Frame} {meth : Method} {c : Code} {b : Nat} {xs : Nat → Int32} {D : va_G} {k : Nat → ClassId} {A : Nat → Prop} (C0 : lc_C p s m meth c b xs D k A) (ad : Nat → Nat) (hm : Nat) (am : Nat → Nat) (H : Heap) (locs : List Loc) (ls : Array Slot) (hP : va_P D gx_cl [((ad 0), .inr (4, [.ref (ad 1), .ref (ad 2), .ref (ad 3), .ref (ad 4), .ref (ad 5), .ref (ad 6), .ref (ad 7), .ref (ad 8), .ref (ad 9), .int 0])), ((ad 1), .inr (0, [.ref (ad 10), .ref (ad 11), .ref (ad 12), .ref (ad 13), .ref (ad 14), .ref (ad 15), .ref (ad 16), .ref (ad 17), .ref (ad 18), .int 0, .int 0, .int 0, .int 0, .int 1, .int 0, .int 0, .int 0])), ((ad 9), .inl (k 0, 5, .inl (fun _ => 0))), (hm, .inr (5, [.ref (am 1), .ref (am 2), .ref (am 3), .ref (am 4), .ref (am 5), .ref (am 6), .ref (am 7), .ref (am 8), .int 0, .ref (am 9), .int 0, .ref (am 10), .int 0, .ref (am 11), .ref (am 12), .int 0, .int 0, .int 1, .null, .null, .int 0, .int 0, .int 0, .long 0, .int 0, .ref (am 13), .int 0, .int 0, .int 0, .ref (am 14), .ref (am 15), .ref (am 16), .ref (am 17), .int 0, .ref (am 18), .ref (am 19), .ref (am 20)])), ((am 9), .inl (k 0, 8, .inl (fun _ => 0)))] H) (hD : va_D A [((ad 0), .inr (4, [.ref (ad 1), .ref (ad 2), .ref (ad 3), .ref (ad 4), .ref (ad 5), .ref (ad 6), .ref (ad 7), .ref (ad 8), .ref (ad 9), .int 0])), ((ad 1), .inr (0, [.ref (ad 10), .ref (ad 11), .ref (ad 12), .ref (ad 13), .ref (ad 14), .ref (ad 15), .ref (ad 16), .ref (ad 17), .ref (ad 18), .int 0, .int 0, .int 0, .int 0, .int 1, .int 0, .int 0, .int 0])), ((ad 9), .inl (k 0, 5, .inl (fun _ => 0))), (hm, .inr (5, [.ref (am 1), .ref (am 2), .ref (am 3), .ref (am 4), .ref (am 5), .ref (am 6), .ref (am 7), .ref (am 8), .int 0, .ref (am 9), .int 0, .ref (am 10), .int 0, .ref (am 11), .ref (am 12), .int 0, .int 0, .int 1, .null, .null, .int 0, .int 0, .int 0, .long 0, .int 0, .ref (am 13), .int 0, .int 0, .int 0, .ref (am 14), .ref (am 15), .ref (am 16), .ref (am 17), .int 0, .ref (am 18), .ref (am 19), .ref (am 20)])), ((am 9), .inl (k 0, 8, .inl (fun _ => 0)))]) (hS : va_S A s.heap H locs) (hl : lv_has ls 4 [(3, .int 0), (2, .ref hm), (1, .ref (ad 0)), (0, .ref b)]) : W p l e room_1 s m #[Value.ref b] below meth c H locs 1140 19699 (lw_Z below #[Value.ref b] s) (F0 m 1041 ls []) := by
  obtain ⟨C, hK, hX, hbl, hA, hA2, hbA⟩ := id C0
  obtain ⟨hx, hb, hr, hml, hown, hT, hlk, -⟩ := id C
  refine lv_aload_n hx hb dL_law_1041 rfl (lv_at hl 2 rfl) ?_
  refine lv_aload_n hx hb dL_law_1042 rfl (lv_at hl 3 rfl) ?_
  refine lv_iload_n hx hb dL_law_1043 rfl (lv_at hl 0 rfl) ?_
  refine lv_iconst (v := 1) hx hb dL_law_1044 (by decide) ?_
  refine lv_iadd hx hb dL_law_1045 ?_
  refine gx_cst (v := 1) (by decide) ?_
  refine va_sld hx hb hX hbl hbA hS (gx_vin rfl) dL_law_1046 ?_
  refine gx_cst (v := (xs 1)) rfl ?_
  refine lv_aload_n hx hb dL_law_1047 rfl (lv_at hl 3 rfl) ?_
  refine lv_iload_n hx hb dL_law_1048 rfl (lv_at hl 0 rfl) ?_
  refine lv_iconst (v := 2) hx hb dL_law_1049 (by decide) ?_
  refine lv_iadd hx hb dL_law_1050 ?_
  refine gx_cst (v := 2) (by decide) ?_
  refine va_sld hx hb hX hbl hbA hS (gx_vin rfl) dL_law_1051 ?_
  refine gx_cst (v := (xs 2)) rfl ?_
  refine lv_aload_n hx hb dL_law_1052 rfl (lv_at hl 3 rfl) ?_
  refine lv_iload_n hx hb dL_law_1053 rfl (lv_at hl 0 rfl) ?_
  refine lv_iconst (v := 3) hx hb dL_law_1054 (by decide) ?_
  refine lv_iadd hx hb dL_law_1055 ?_
  refine gx_cst (v := 3) (by decide) ?_
  refine va_sld hx hb hX hbl hbA hS (gx_vin rfl) dL_law_1056 ?_
  refine gx_cst (v := (xs 3)) rfl ?_
  refine lv_aload_n hx hb dL_law_1057 rfl (lv_at hl 3 rfl) ?_
  refine lv_iload_n hx hb dL_law_1058 rfl (lv_at hl 0 rfl) ?_
  refine lv_iconst (v := 4) hx hb dL_law_1059 (by decide) ?_
  refine lv_iadd hx hb dL_law_1060 ?_
  refine gx_cst (v := 4) (by decide) ?_
  refine va_sld hx hb hX hbl hbA hS (gx_vin rfl) dL_law_1061 ?_
  refine gx_cst (v := (xs 4)) rfl ?_
  refine gx_ei (wc := ([((ad 0), .inr (4, [.ref (ad 1), .ref (ad 2), .ref (ad 3), .ref (ad 4), .ref (ad 5), .ref (ad 6), .ref (ad 7), .ref (ad 8), .ref (ad 9), .int 0])), ((ad 1), .inr (0, [.ref (ad 10), .ref (ad 11), .ref (ad 12), .ref (ad 13), .ref (ad 14), .ref (ad 15), .ref (ad 16), .ref (ad 17), .ref (ad 18), .int 0, .int 0, .int 0, .int 0, .int 1, .int 0, .int 0, .int 0])), ((ad 9), .inl (k 0, 5, .inl (fun _ => 0)))] : va_W)) (wr := [(hm, .inr (5, [.ref (am 1), .ref (am 2), .ref (am 3), .ref (am 4), .ref (am 5), .ref (am 6), .ref (am 7), .ref (am 8), .int 0, .ref (am 9), .int 0, .ref (am 10), .int 0, .ref (am 11), .ref (am 12), .int 0, .int 0, .int 1, .null, .null, .int 0, .int 0, .int 0, .long 0, .int 0, .ref (am 13), .int 0, .int 0, .int 0, .ref (am 14), .ref (am 15), .ref (am 16), .ref (am 17), .int 0, .ref (am 18), .ref (am 19), .ref (am 20)])), ((am 9), .inl (k 0, 8, .inl (fun _ => 0)))]) (isC := [0, 1, 2]) (isR := [3, 4]) hP hD hS hA rfl rfl (by decide) (by decide) (gx_runV (na := 4) (As := [.int (xs 1), .int (xs 2), .int (xs 3), .int (xs 4)]) (rest := []) (ci := 4) C hl.1 hK (gx_subP (wc := ([((ad 0), .inr (4, [.ref (ad 1), .ref (ad 2), .ref (ad 3), .ref (ad 4), .ref (ad 5), .ref (ad 6), .ref (ad 7), .ref (ad 8), .ref (ad 9), .int 0])), ((ad 1), .inr (0, [.ref (ad 10), .ref (ad 11), .ref (ad 12), .ref (ad 13), .ref (ad 14), .ref (ad 15), .ref (ad 16), .ref (ad 17), .ref (ad 18), .int 0, .int 0, .int 0, .int 0, .int 1, .int 0, .int 0, .int 0])), ((ad 9), .inl (k 0, 5, .inl (fun _ => 0)))] : va_W)) hP [0, 1, 2] rfl) ((hD.sub (ws' := ([((ad 0), .inr (4, [.ref (ad 1), .ref (ad 2), .ref (ad 3), .ref (ad 4), .ref (ad 5), .ref (ad 6), .ref (ad 7), .ref (ad 8), .ref (ad 9), .int 0])), ((ad 1), .inr (0, [.ref (ad 10), .ref (ad 11), .ref (ad 12), .ref (ad 13), .ref (ad 14), .ref (ad 15), .ref (ad 16), .ref (ad 17), .ref (ad 18), .int 0, .int 0, .int 0, .int 0, .int 1, .int 0, .int 0, .int 0])), ((ad 9), .inl (k 0, 5, .inl (fun _ => 0)))] : va_W)) [0, 1, 2] (by decide) rfl).weaken (fun _ _ _ _ => trivial)) (x_run l D k ad (xs 1) (xs 2) (xs 3) (xs 4) _) gV_R_law_120 (by decide +kernel) rfl rfl ⟨Nat.le_of_ble_eq_true rfl, Nat.le_of_ble_eq_true rfl⟩ rfl rfl rfl rfl (Nat.le_of_ble_eq_true rfl) dL_law_1062 ⟨Nat.le_of_ble_eq_true rfl, Nat.le_of_ble_eq_true rfl⟩) (fun r_3 u_1 H locs h_2 hP hD hS => ?_)
  have h_2 : r_3 = -2 := h_2
  have hP : va_P D gx_cl [(hm, .inr (5, [.ref (am 1), .ref (am 2), .ref (am 3), .ref (am 4), .ref (am 5), .ref (am 6), .ref (am 7), .ref (am 8), .int 0, .ref (am 9), .int 0, .ref (am 10), .int 0, .ref (am 11), .ref (am 12), .int 0, .int 0, .int 1, .null, .null, .int 0, .int 0, .int 0, .long 0, .int 0, .ref (am 13), .int 0, .int 0, .int 0, .ref (am 14), .ref (am 15), .ref (am 16), .ref (am 17), .int 0, .ref (am 18), .ref (am 19), .ref (am 20)])), ((am 9), .inl (k 0, 8, .inl (fun _ => 0)))] H := hP
  have hD : va_D A [(hm, .inr (5, [.ref (am 1), .ref (am 2), .ref (am 3), .ref (am 4), .ref (am 5), .ref (am 6), .ref (am 7), .ref (am 8), .int 0, .ref (am 9), .int 0, .ref (am 10), .int 0, .ref (am 11), .ref (am 12), .int 0, .int 0, .int 1, .null, .null, .int 0, .int 0, .int 0, .long 0, .int 0, .ref (am 13), .int 0, .int 0, .int 0, .ref (am 14), .ref (am 15), .ref (am 16), .ref (am 17), .int 0, .ref (am 18), .ref (am 19), .ref (am 20)])), ((am 9), .inl (k 0, 8, .inl (fun _ => 0)))] := hD
  refine lv_aload_n hx hb dL_law_1065 rfl (lv_at hl 1 rfl) ?_
  refine lv_aload_n hx hb dL_law_1066 rfl (lv_at hl 3 rfl) ?_
  refine lv_iload_n hx hb dL_law_1067 rfl (lv_at hl 0 rfl) ?_
  refine lv_iconst (v := 1) hx hb dL_law_1068 (by decide) ?_
  refine lv_iadd hx hb dL_law_1069 ?_
  refine gx_cst (v := 1) (by decide) ?_
  refine va_sld hx hb hX hbl hbA hS (gx_vin rfl) dL_law_1070 ?_
  refine gx_cst (v := (xs 1)) rfl ?_
  refine lv_aload_n hx hb dL_law_1071 rfl (lv_at hl 3 rfl) ?_
  refine lv_iload_n hx hb dL_law_1072 rfl (lv_at hl 0 rfl) ?_
  refine lv_iconst (v := 2) hx hb dL_law_1073 (by decide) ?_
  refine lv_iadd hx hb dL_law_1074 ?_
  refine gx_cst (v := 2) (by decide) ?_
  refine va_sld hx hb hX hbl hbA hS (gx_vin rfl) dL_law_1075 ?_
  refine gx_cst (v := (xs 2)) rfl ?_
  refine lv_aload_n hx hb dL_law_1076 rfl (lv_at hl 3 rfl) ?_
  refine lv_iload_n hx hb dL_law_1077 rfl (lv_at hl 0 rfl) ?_
  refine lv_iconst (v := 3) hx hb dL_law_1078 (by decide) ?_
  refine lv_iadd hx hb dL_law_1079 ?_
  refine gx_cst (v := 3) (by decide) ?_
  refine va_sld hx hb hX hbl hbA hS (gx_vin rfl) dL_law_1080 ?_
  refine gx_cst (v := (xs 3)) rfl ?_
  refine lv_aload_n hx hb dL_law_1081 rfl (lv_at hl 3 rfl) ?_
  refine lv_iload_n hx hb dL_law_1082 rfl (lv_at hl 0 rfl) ?_
  refine lv_iconst (v := 4) hx hb dL_law_1083 (by decide) ?_
  refine lv_iadd hx hb dL_law_1084 ?_
  refine gx_cst (v := 4) (by decide) ?_
  refine va_sld hx hb hX hbl hbA hS (gx_vin rfl) dL_law_1085 ?_
  refine gx_cst (v := (xs 4)) rfl ?_
  refine gx_ei (wc := ([(hm, .inr (5, [.ref (am 1), .ref (am 2), .ref (am 3), .ref (am 4), .ref (am 5), .ref (am 6), .ref (am 7), .ref (am 8), .int 0, .ref (am 9), .int 0, .ref (am 10), .int 0, .ref (am 11), .ref (am 12), .int 0, .int 0, .int 1, .null, .null, .int 0, .int 0, .int 0, .long 0, .int 0, .ref (am 13), .int 0, .int 0, .int 0, .ref (am 14), .ref (am 15), .ref (am 16), .ref (am 17), .int 0, .ref (am 18), .ref (am 19), .ref (am 20)])), ((am 9), .inl (k 0, 8, .inl (fun _ => 0)))] : va_W)) (wr := []) (isC := [0, 1]) (isR := []) hP hD hS hA rfl rfl (by decide) (by decide) (gx_runV (na := 4) (As := [.int (xs 1), .int (xs 2), .int (xs 3), .int (xs 4)]) (rest := [.int r_3]) (ci := 5) C hl.1 hK (gx_subP (wc := ([(hm, .inr (5, [.ref (am 1), .ref (am 2), .ref (am 3), .ref (am 4), .ref (am 5), .ref (am 6), .ref (am 7), .ref (am 8), .int 0, .ref (am 9), .int 0, .ref (am 10), .int 0, .ref (am 11), .ref (am 12), .int 0, .int 0, .int 1, .null, .null, .int 0, .int 0, .int 0, .long 0, .int 0, .ref (am 13), .int 0, .int 0, .int 0, .ref (am 14), .ref (am 15), .ref (am 16), .ref (am 17), .int 0, .ref (am 18), .ref (am 19), .ref (am 20)])), ((am 9), .inl (k 0, 8, .inl (fun _ => 0)))] : va_W)) hP [0, 1] rfl) ((hD.sub (ws' := ([(hm, .inr (5, [.ref (am 1), .ref (am 2), .ref (am 3), .ref (am 4), .ref (am 5), .ref (am 6), .ref (am 7), .ref (am 8), .int 0, .ref (am 9), .int 0, .ref (am 10), .int 0, .ref (am 11), .ref (am 12), .int 0, .int 0, .int 1, .null, .null, .int 0, .int 0, .int 0, .long 0, .int 0, .ref (am 13), .int 0, .int 0, .int 0, .ref (am 14), .ref (am 15), .ref (am 16), .ref (am 17), .int 0, .ref (am 18), .ref (am 19), .ref (am 20)])), ((am 9), .inl (k 0, 8, .inl (fun _ => 0)))] : va_W)) [0, 1] (by decide) rfl).weaken (fun _ _ _ _ => trivial)) (m_run_pub l D k hm am (xs 1) (xs 2) (xs 3) (xs 4) _) gV_R_law_124 (by decide +kernel) rfl rfl ⟨Nat.le_of_ble_eq_true rfl, Nat.le_of_ble_eq_true rfl⟩ rfl rfl rfl rfl (Nat.le_of_ble_eq_true rfl) dL_law_1086 ⟨Nat.le_of_ble_eq_true rfl, Nat.le_of_ble_eq_true rfl⟩) (fun r_7 u_5 H locs h_6 hP hD hS => ?_)
  have h_6 : r_7 = -2 := h_6
  have hP : va_P D gx_cl [] H := hP
  have hD : va_D A [] := hD
  refine lv_icmp_eq (tgt := 1806) hx hb dL_law_1089 (by decide) (fun c_9 => ?_) (fun c_9 => absurd (h_2.trans h_6.symm) c_9)
  exact lc_next C0 hS (Nat.le_of_ble_eq_true rfl) (Nat.le_of_ble_eq_true rfl) (lv_sub hl [0, 3] rfl)
set_option maxHeartbeats 4000000 in
set_option maxRecDepth 100000 in
theorem lc_head {p : Program} {l : Launch} {e : Env} {s : State} {m : MethodId} {below : List Frame} {meth : Method} {c : Code} {b : Nat} {xs : Nat → Int32} {D : va_G} {k : Nat → ClassId} {A : Nat → Prop} (C0 : lc_C p s m meth c b xs D k A) (ad : Nat → Nat) (hm : Nat) (am : Nat → Nat) (H : Heap) (locs : List Loc) (ls : Array Slot) (hP : va_P D gx_cl [((ad 0), .inr (4, [.ref (ad 1), .ref (ad 2), .ref (ad 3), .ref (ad 4), .ref (ad 5), .ref (ad 6), .ref (ad 7), .ref (ad 8), .ref (ad 9), .int 0])), ((ad 1), .inr (0, [.ref (ad 10), .ref (ad 11), .ref (ad 12), .ref (ad 13), .ref (ad 14), .ref (ad 15), .ref (ad 16), .ref (ad 17), .ref (ad 18), .int 0, .int 0, .int 0, .int 0, .int 1, .int 0, .int 0, .int 0])), ((ad 9), .inl (k 0, 5, .inl (fun _ => 0))), (hm, .inr (5, [.ref (am 1), .ref (am 2), .ref (am 3), .ref (am 4), .ref (am 5), .ref (am 6), .ref (am 7), .ref (am 8), .int 0, .ref (am 9), .int 0, .ref (am 10), .int 0, .ref (am 11), .ref (am 12), .int 0, .int 0, .int 1, .null, .null, .int 0, .int 0, .int 0, .long 0, .int 0, .ref (am 13), .int 0, .int 0, .int 0, .ref (am 14), .ref (am 15), .ref (am 16), .ref (am 17), .int 0, .ref (am 18), .ref (am 19), .ref (am 20)])), ((am 9), .inl (k 0, 8, .inl (fun _ => 0)))] H) (hD : va_D A [((ad 0), .inr (4, [.ref (ad 1), .ref (ad 2), .ref (ad 3), .ref (ad 4), .ref (ad 5), .ref (ad 6), .ref (ad 7), .ref (ad 8), .ref (ad 9), .int 0])), ((ad 1), .inr (0, [.ref (ad 10), .ref (ad 11), .ref (ad 12), .ref (ad 13), .ref (ad 14), .ref (ad 15), .ref (ad 16), .ref (ad 17), .ref (ad 18), .int 0, .int 0, .int 0, .int 0, .int 1, .int 0, .int 0, .int 0])), ((ad 9), .inl (k 0, 5, .inl (fun _ => 0))), (hm, .inr (5, [.ref (am 1), .ref (am 2), .ref (am 3), .ref (am 4), .ref (am 5), .ref (am 6), .ref (am 7), .ref (am 8), .int 0, .ref (am 9), .int 0, .ref (am 10), .int 0, .ref (am 11), .ref (am 12), .int 0, .int 0, .int 1, .null, .null, .int 0, .int 0, .int 0, .long 0, .int 0, .ref (am 13), .int 0, .int 0, .int 0, .ref (am 14), .ref (am 15), .ref (am 16), .ref (am 17), .int 0, .ref (am 18), .ref (am 19), .ref (am 20)])), ((am 9), .inl (k 0, 8, .inl (fun _ => 0)))]) (hS : va_S A s.heap H locs) (hl : lv_has ls 4 [(3, .int 0), (2, .ref hm), (1, .ref (ad 0)), (0, .ref b)]) : W p l e room_1 s m #[Value.ref b] below meth c H locs 1140 19699 (lw_Z below #[Value.ref b] s) (F0 m 1094 ls []) := by
  obtain ⟨C, hK, hX, hbl, hA, hA2, hbA⟩ := id C0
  obtain ⟨hx, hb, hr, hml, hown, hT, hlk, -⟩ := id C
  refine lv_aload_n hx hb dL_law_1094 rfl (lv_at hl 2 rfl) ?_
  refine lv_aload_n hx hb dL_law_1095 rfl (lv_at hl 3 rfl) ?_
  refine lv_iload_n hx hb dL_law_1096 rfl (lv_at hl 0 rfl) ?_
  refine lv_iconst (v := 1) hx hb dL_law_1097 (by decide) ?_
  refine lv_iadd hx hb dL_law_1098 ?_
  refine gx_cst (v := 1) (by decide) ?_
  refine va_sld hx hb hX hbl hbA hS (gx_vin rfl) dL_law_1099 ?_
  refine gx_cst (v := (xs 1)) rfl ?_
  refine gx_ei (wc := ([((ad 0), .inr (4, [.ref (ad 1), .ref (ad 2), .ref (ad 3), .ref (ad 4), .ref (ad 5), .ref (ad 6), .ref (ad 7), .ref (ad 8), .ref (ad 9), .int 0])), ((ad 1), .inr (0, [.ref (ad 10), .ref (ad 11), .ref (ad 12), .ref (ad 13), .ref (ad 14), .ref (ad 15), .ref (ad 16), .ref (ad 17), .ref (ad 18), .int 0, .int 0, .int 0, .int 0, .int 1, .int 0, .int 0, .int 0])), ((ad 9), .inl (k 0, 5, .inl (fun _ => 0)))] : va_W)) (wr := [(hm, .inr (5, [.ref (am 1), .ref (am 2), .ref (am 3), .ref (am 4), .ref (am 5), .ref (am 6), .ref (am 7), .ref (am 8), .int 0, .ref (am 9), .int 0, .ref (am 10), .int 0, .ref (am 11), .ref (am 12), .int 0, .int 0, .int 1, .null, .null, .int 0, .int 0, .int 0, .long 0, .int 0, .ref (am 13), .int 0, .int 0, .int 0, .ref (am 14), .ref (am 15), .ref (am 16), .ref (am 17), .int 0, .ref (am 18), .ref (am 19), .ref (am 20)])), ((am 9), .inl (k 0, 8, .inl (fun _ => 0)))]) (isC := [0, 1, 2]) (isR := [3, 4]) hP hD hS hA rfl rfl (by decide) (by decide) (gx_runV (na := 1) (As := [.int (xs 1)]) (rest := []) (ci := 4) C hl.1 hK (gx_subP (wc := ([((ad 0), .inr (4, [.ref (ad 1), .ref (ad 2), .ref (ad 3), .ref (ad 4), .ref (ad 5), .ref (ad 6), .ref (ad 7), .ref (ad 8), .ref (ad 9), .int 0])), ((ad 1), .inr (0, [.ref (ad 10), .ref (ad 11), .ref (ad 12), .ref (ad 13), .ref (ad 14), .ref (ad 15), .ref (ad 16), .ref (ad 17), .ref (ad 18), .int 0, .int 0, .int 0, .int 0, .int 1, .int 0, .int 0, .int 0])), ((ad 9), .inl (k 0, 5, .inl (fun _ => 0)))] : va_W)) hP [0, 1, 2] rfl) ((hD.sub (ws' := ([((ad 0), .inr (4, [.ref (ad 1), .ref (ad 2), .ref (ad 3), .ref (ad 4), .ref (ad 5), .ref (ad 6), .ref (ad 7), .ref (ad 8), .ref (ad 9), .int 0])), ((ad 1), .inr (0, [.ref (ad 10), .ref (ad 11), .ref (ad 12), .ref (ad 13), .ref (ad 14), .ref (ad 15), .ref (ad 16), .ref (ad 17), .ref (ad 18), .int 0, .int 0, .int 0, .int 0, .int 1, .int 0, .int 0, .int 0])), ((ad 9), .inl (k 0, 5, .inl (fun _ => 0)))] : va_W)) [0, 1, 2] (by decide) rfl).weaken (fun _ _ _ _ => trivial)) (x_head l D k ad (xs 1) _) gV_R_law_125 (by decide +kernel) rfl rfl ⟨Nat.le_of_ble_eq_true rfl, Nat.le_of_ble_eq_true rfl⟩ rfl rfl rfl rfl (Nat.le_of_ble_eq_true rfl) dL_law_1100 ⟨Nat.le_of_ble_eq_true rfl, Nat.le_of_ble_eq_true rfl⟩) (fun r_3 u_1 H locs h_2 hP hD hS => ?_)
  have h_2 : r_3 = -2 := h_2
  have hP : va_P D gx_cl [(hm, .inr (5, [.ref (am 1), .ref (am 2), .ref (am 3), .ref (am 4), .ref (am 5), .ref (am 6), .ref (am 7), .ref (am 8), .int 0, .ref (am 9), .int 0, .ref (am 10), .int 0, .ref (am 11), .ref (am 12), .int 0, .int 0, .int 1, .null, .null, .int 0, .int 0, .int 0, .long 0, .int 0, .ref (am 13), .int 0, .int 0, .int 0, .ref (am 14), .ref (am 15), .ref (am 16), .ref (am 17), .int 0, .ref (am 18), .ref (am 19), .ref (am 20)])), ((am 9), .inl (k 0, 8, .inl (fun _ => 0)))] H := hP
  have hD : va_D A [(hm, .inr (5, [.ref (am 1), .ref (am 2), .ref (am 3), .ref (am 4), .ref (am 5), .ref (am 6), .ref (am 7), .ref (am 8), .int 0, .ref (am 9), .int 0, .ref (am 10), .int 0, .ref (am 11), .ref (am 12), .int 0, .int 0, .int 1, .null, .null, .int 0, .int 0, .int 0, .long 0, .int 0, .ref (am 13), .int 0, .int 0, .int 0, .ref (am 14), .ref (am 15), .ref (am 16), .ref (am 17), .int 0, .ref (am 18), .ref (am 19), .ref (am 20)])), ((am 9), .inl (k 0, 8, .inl (fun _ => 0)))] := hD
  refine lv_aload_n hx hb dL_law_1103 rfl (lv_at hl 1 rfl) ?_
  refine lv_aload_n hx hb dL_law_1104 rfl (lv_at hl 3 rfl) ?_
  refine lv_iload_n hx hb dL_law_1105 rfl (lv_at hl 0 rfl) ?_
  refine lv_iconst (v := 1) hx hb dL_law_1106 (by decide) ?_
  refine lv_iadd hx hb dL_law_1107 ?_
  refine gx_cst (v := 1) (by decide) ?_
  refine va_sld hx hb hX hbl hbA hS (gx_vin rfl) dL_law_1108 ?_
  refine gx_cst (v := (xs 1)) rfl ?_
  refine gx_ei (wc := ([(hm, .inr (5, [.ref (am 1), .ref (am 2), .ref (am 3), .ref (am 4), .ref (am 5), .ref (am 6), .ref (am 7), .ref (am 8), .int 0, .ref (am 9), .int 0, .ref (am 10), .int 0, .ref (am 11), .ref (am 12), .int 0, .int 0, .int 1, .null, .null, .int 0, .int 0, .int 0, .long 0, .int 0, .ref (am 13), .int 0, .int 0, .int 0, .ref (am 14), .ref (am 15), .ref (am 16), .ref (am 17), .int 0, .ref (am 18), .ref (am 19), .ref (am 20)])), ((am 9), .inl (k 0, 8, .inl (fun _ => 0)))] : va_W)) (wr := []) (isC := [0, 1]) (isR := []) hP hD hS hA rfl rfl (by decide) (by decide) (gx_runV (na := 1) (As := [.int (xs 1)]) (rest := [.int r_3]) (ci := 5) C hl.1 hK (gx_subP (wc := ([(hm, .inr (5, [.ref (am 1), .ref (am 2), .ref (am 3), .ref (am 4), .ref (am 5), .ref (am 6), .ref (am 7), .ref (am 8), .int 0, .ref (am 9), .int 0, .ref (am 10), .int 0, .ref (am 11), .ref (am 12), .int 0, .int 0, .int 1, .null, .null, .int 0, .int 0, .int 0, .long 0, .int 0, .ref (am 13), .int 0, .int 0, .int 0, .ref (am 14), .ref (am 15), .ref (am 16), .ref (am 17), .int 0, .ref (am 18), .ref (am 19), .ref (am 20)])), ((am 9), .inl (k 0, 8, .inl (fun _ => 0)))] : va_W)) hP [0, 1] rfl) ((hD.sub (ws' := ([(hm, .inr (5, [.ref (am 1), .ref (am 2), .ref (am 3), .ref (am 4), .ref (am 5), .ref (am 6), .ref (am 7), .ref (am 8), .int 0, .ref (am 9), .int 0, .ref (am 10), .int 0, .ref (am 11), .ref (am 12), .int 0, .int 0, .int 1, .null, .null, .int 0, .int 0, .int 0, .long 0, .int 0, .ref (am 13), .int 0, .int 0, .int 0, .ref (am 14), .ref (am 15), .ref (am 16), .ref (am 17), .int 0, .ref (am 18), .ref (am 19), .ref (am 20)])), ((am 9), .inl (k 0, 8, .inl (fun _ => 0)))] : va_W)) [0, 1] (by decide) rfl).weaken (fun _ _ _ _ => trivial)) (m_head_pub l D k hm am (xs 1) _) gV_R_law_128 (by decide +kernel) rfl rfl ⟨Nat.le_of_ble_eq_true rfl, Nat.le_of_ble_eq_true rfl⟩ rfl rfl rfl rfl (Nat.le_of_ble_eq_true rfl) dL_law_1109 ⟨Nat.le_of_ble_eq_true rfl, Nat.le_of_ble_eq_true rfl⟩) (fun r_7 u_5 H locs h_6 hP hD hS => ?_)
  have h_6 : r_7 = -2 := h_6
  have hP : va_P D gx_cl [] H := hP
  have hD : va_D A [] := hD
  refine lv_icmp_eq (tgt := 1806) hx hb dL_law_1112 (by decide) (fun c_9 => ?_) (fun c_9 => absurd (h_2.trans h_6.symm) c_9)
  exact lc_next C0 hS (Nat.le_of_ble_eq_true rfl) (Nat.le_of_ble_eq_true rfl) (lv_sub hl [0, 3] rfl)
set_option maxHeartbeats 4000000 in
set_option maxRecDepth 100000 in
theorem lc_lives {p : Program} {l : Launch} {e : Env} {s : State} {m : MethodId} {below : List Frame} {meth : Method} {c : Code} {b : Nat} {xs : Nat → Int32} {D : va_G} {k : Nat → ClassId} {A : Nat → Prop} (C0 : lc_C p s m meth c b xs D k A) (ad : Nat → Nat) (hm : Nat) (am : Nat → Nat) (H : Heap) (locs : List Loc) (ls : Array Slot) (hP : va_P D gx_cl [((ad 0), .inr (4, [.ref (ad 1), .ref (ad 2), .ref (ad 3), .ref (ad 4), .ref (ad 5), .ref (ad 6), .ref (ad 7), .ref (ad 8), .ref (ad 9), .int 0])), ((ad 1), .inr (0, [.ref (ad 10), .ref (ad 11), .ref (ad 12), .ref (ad 13), .ref (ad 14), .ref (ad 15), .ref (ad 16), .ref (ad 17), .ref (ad 18), .int 0, .int 0, .int 0, .int 0, .int 1, .int 0, .int 0, .int 0])), ((ad 9), .inl (k 0, 5, .inl (fun _ => 0))), (hm, .inr (5, [.ref (am 1), .ref (am 2), .ref (am 3), .ref (am 4), .ref (am 5), .ref (am 6), .ref (am 7), .ref (am 8), .int 0, .ref (am 9), .int 0, .ref (am 10), .int 0, .ref (am 11), .ref (am 12), .int 0, .int 0, .int 1, .null, .null, .int 0, .int 0, .int 0, .long 0, .int 0, .ref (am 13), .int 0, .int 0, .int 0, .ref (am 14), .ref (am 15), .ref (am 16), .ref (am 17), .int 0, .ref (am 18), .ref (am 19), .ref (am 20)])), ((am 9), .inl (k 0, 8, .inl (fun _ => 0)))] H) (hD : va_D A [((ad 0), .inr (4, [.ref (ad 1), .ref (ad 2), .ref (ad 3), .ref (ad 4), .ref (ad 5), .ref (ad 6), .ref (ad 7), .ref (ad 8), .ref (ad 9), .int 0])), ((ad 1), .inr (0, [.ref (ad 10), .ref (ad 11), .ref (ad 12), .ref (ad 13), .ref (ad 14), .ref (ad 15), .ref (ad 16), .ref (ad 17), .ref (ad 18), .int 0, .int 0, .int 0, .int 0, .int 1, .int 0, .int 0, .int 0])), ((ad 9), .inl (k 0, 5, .inl (fun _ => 0))), (hm, .inr (5, [.ref (am 1), .ref (am 2), .ref (am 3), .ref (am 4), .ref (am 5), .ref (am 6), .ref (am 7), .ref (am 8), .int 0, .ref (am 9), .int 0, .ref (am 10), .int 0, .ref (am 11), .ref (am 12), .int 0, .int 0, .int 1, .null, .null, .int 0, .int 0, .int 0, .long 0, .int 0, .ref (am 13), .int 0, .int 0, .int 0, .ref (am 14), .ref (am 15), .ref (am 16), .ref (am 17), .int 0, .ref (am 18), .ref (am 19), .ref (am 20)])), ((am 9), .inl (k 0, 8, .inl (fun _ => 0)))]) (hS : va_S A s.heap H locs) (hl : lv_has ls 4 [(3, .int 0), (2, .ref hm), (1, .ref (ad 0)), (0, .ref b)]) : W p l e room_1 s m #[Value.ref b] below meth c H locs 1140 19699 (lw_Z below #[Value.ref b] s) (F0 m 1117 ls []) := by
  obtain ⟨C, hK, hX, hbl, hA, hA2, hbA⟩ := id C0
  obtain ⟨hx, hb, hr, hml, hown, hT, hlk, -⟩ := id C
  refine lv_aload_n hx hb dL_law_1117 rfl (lv_at hl 2 rfl) ?_
  refine lv_aload_n hx hb dL_law_1118 rfl (lv_at hl 3 rfl) ?_
  refine lv_iload_n hx hb dL_law_1119 rfl (lv_at hl 0 rfl) ?_
  refine lv_iconst (v := 1) hx hb dL_law_1120 (by decide) ?_
  refine lv_iadd hx hb dL_law_1121 ?_
  refine gx_cst (v := 1) (by decide) ?_
  refine va_sld hx hb hX hbl hbA hS (gx_vin rfl) dL_law_1122 ?_
  refine gx_cst (v := (xs 1)) rfl ?_
  refine lv_aload_n hx hb dL_law_1123 rfl (lv_at hl 3 rfl) ?_
  refine lv_iload_n hx hb dL_law_1124 rfl (lv_at hl 0 rfl) ?_
  refine lv_iconst (v := 2) hx hb dL_law_1125 (by decide) ?_
  refine lv_iadd hx hb dL_law_1126 ?_
  refine gx_cst (v := 2) (by decide) ?_
  refine va_sld hx hb hX hbl hbA hS (gx_vin rfl) dL_law_1127 ?_
  refine gx_cst (v := (xs 2)) rfl ?_
  refine lv_aload_n hx hb dL_law_1128 rfl (lv_at hl 3 rfl) ?_
  refine lv_iload_n hx hb dL_law_1129 rfl (lv_at hl 0 rfl) ?_
  refine lv_iconst (v := 3) hx hb dL_law_1130 (by decide) ?_
  refine lv_iadd hx hb dL_law_1131 ?_
  refine gx_cst (v := 3) (by decide) ?_
  refine va_sld hx hb hX hbl hbA hS (gx_vin rfl) dL_law_1132 ?_
  refine gx_cst (v := (xs 3)) rfl ?_
  refine gx_ei (wc := ([((ad 0), .inr (4, [.ref (ad 1), .ref (ad 2), .ref (ad 3), .ref (ad 4), .ref (ad 5), .ref (ad 6), .ref (ad 7), .ref (ad 8), .ref (ad 9), .int 0])), ((ad 1), .inr (0, [.ref (ad 10), .ref (ad 11), .ref (ad 12), .ref (ad 13), .ref (ad 14), .ref (ad 15), .ref (ad 16), .ref (ad 17), .ref (ad 18), .int 0, .int 0, .int 0, .int 0, .int 1, .int 0, .int 0, .int 0])), ((ad 9), .inl (k 0, 5, .inl (fun _ => 0)))] : va_W)) (wr := [(hm, .inr (5, [.ref (am 1), .ref (am 2), .ref (am 3), .ref (am 4), .ref (am 5), .ref (am 6), .ref (am 7), .ref (am 8), .int 0, .ref (am 9), .int 0, .ref (am 10), .int 0, .ref (am 11), .ref (am 12), .int 0, .int 0, .int 1, .null, .null, .int 0, .int 0, .int 0, .long 0, .int 0, .ref (am 13), .int 0, .int 0, .int 0, .ref (am 14), .ref (am 15), .ref (am 16), .ref (am 17), .int 0, .ref (am 18), .ref (am 19), .ref (am 20)])), ((am 9), .inl (k 0, 8, .inl (fun _ => 0)))]) (isC := [0, 1, 2]) (isR := [3, 4]) hP hD hS hA rfl rfl (by decide) (by decide) (gx_runV (na := 3) (As := [.int (xs 1), .int (xs 2), .int (xs 3)]) (rest := []) (ci := 4) C hl.1 hK (gx_subP (wc := ([((ad 0), .inr (4, [.ref (ad 1), .ref (ad 2), .ref (ad 3), .ref (ad 4), .ref (ad 5), .ref (ad 6), .ref (ad 7), .ref (ad 8), .ref (ad 9), .int 0])), ((ad 1), .inr (0, [.ref (ad 10), .ref (ad 11), .ref (ad 12), .ref (ad 13), .ref (ad 14), .ref (ad 15), .ref (ad 16), .ref (ad 17), .ref (ad 18), .int 0, .int 0, .int 0, .int 0, .int 1, .int 0, .int 0, .int 0])), ((ad 9), .inl (k 0, 5, .inl (fun _ => 0)))] : va_W)) hP [0, 1, 2] rfl) ((hD.sub (ws' := ([((ad 0), .inr (4, [.ref (ad 1), .ref (ad 2), .ref (ad 3), .ref (ad 4), .ref (ad 5), .ref (ad 6), .ref (ad 7), .ref (ad 8), .ref (ad 9), .int 0])), ((ad 1), .inr (0, [.ref (ad 10), .ref (ad 11), .ref (ad 12), .ref (ad 13), .ref (ad 14), .ref (ad 15), .ref (ad 16), .ref (ad 17), .ref (ad 18), .int 0, .int 0, .int 0, .int 0, .int 1, .int 0, .int 0, .int 0])), ((ad 9), .inl (k 0, 5, .inl (fun _ => 0)))] : va_W)) [0, 1, 2] (by decide) rfl).weaken (fun _ _ _ _ => trivial)) (x_lives l D k ad (xs 1) (xs 2) (xs 3) _) gV_R_law_129 (by decide +kernel) rfl rfl ⟨Nat.le_of_ble_eq_true rfl, Nat.le_of_ble_eq_true rfl⟩ rfl rfl rfl rfl (Nat.le_of_ble_eq_true rfl) dL_law_1133 ⟨Nat.le_of_ble_eq_true rfl, Nat.le_of_ble_eq_true rfl⟩) (fun r_3 u_1 H locs h_2 hP hD hS => ?_)
  have h_2 : r_3 = -2 := h_2
  have hP : va_P D gx_cl [(hm, .inr (5, [.ref (am 1), .ref (am 2), .ref (am 3), .ref (am 4), .ref (am 5), .ref (am 6), .ref (am 7), .ref (am 8), .int 0, .ref (am 9), .int 0, .ref (am 10), .int 0, .ref (am 11), .ref (am 12), .int 0, .int 0, .int 1, .null, .null, .int 0, .int 0, .int 0, .long 0, .int 0, .ref (am 13), .int 0, .int 0, .int 0, .ref (am 14), .ref (am 15), .ref (am 16), .ref (am 17), .int 0, .ref (am 18), .ref (am 19), .ref (am 20)])), ((am 9), .inl (k 0, 8, .inl (fun _ => 0)))] H := hP
  have hD : va_D A [(hm, .inr (5, [.ref (am 1), .ref (am 2), .ref (am 3), .ref (am 4), .ref (am 5), .ref (am 6), .ref (am 7), .ref (am 8), .int 0, .ref (am 9), .int 0, .ref (am 10), .int 0, .ref (am 11), .ref (am 12), .int 0, .int 0, .int 1, .null, .null, .int 0, .int 0, .int 0, .long 0, .int 0, .ref (am 13), .int 0, .int 0, .int 0, .ref (am 14), .ref (am 15), .ref (am 16), .ref (am 17), .int 0, .ref (am 18), .ref (am 19), .ref (am 20)])), ((am 9), .inl (k 0, 8, .inl (fun _ => 0)))] := hD
  refine lv_aload_n hx hb dL_law_1136 rfl (lv_at hl 1 rfl) ?_
  refine lv_aload_n hx hb dL_law_1137 rfl (lv_at hl 3 rfl) ?_
  refine lv_iload_n hx hb dL_law_1138 rfl (lv_at hl 0 rfl) ?_
  refine lv_iconst (v := 1) hx hb dL_law_1139 (by decide) ?_
  refine lv_iadd hx hb dL_law_1140 ?_
  refine gx_cst (v := 1) (by decide) ?_
  refine va_sld hx hb hX hbl hbA hS (gx_vin rfl) dL_law_1141 ?_
  refine gx_cst (v := (xs 1)) rfl ?_
  refine lv_aload_n hx hb dL_law_1142 rfl (lv_at hl 3 rfl) ?_
  refine lv_iload_n hx hb dL_law_1143 rfl (lv_at hl 0 rfl) ?_
  refine lv_iconst (v := 2) hx hb dL_law_1144 (by decide) ?_
  refine lv_iadd hx hb dL_law_1145 ?_
  refine gx_cst (v := 2) (by decide) ?_
  refine va_sld hx hb hX hbl hbA hS (gx_vin rfl) dL_law_1146 ?_
  refine gx_cst (v := (xs 2)) rfl ?_
  refine lv_aload_n hx hb dL_law_1147 rfl (lv_at hl 3 rfl) ?_
  refine lv_iload_n hx hb dL_law_1148 rfl (lv_at hl 0 rfl) ?_
  refine lv_iconst (v := 3) hx hb dL_law_1149 (by decide) ?_
  refine lv_iadd hx hb dL_law_1150 ?_
  refine gx_cst (v := 3) (by decide) ?_
  refine va_sld hx hb hX hbl hbA hS (gx_vin rfl) dL_law_1151 ?_
  refine gx_cst (v := (xs 3)) rfl ?_
  refine gx_ei (wc := ([(hm, .inr (5, [.ref (am 1), .ref (am 2), .ref (am 3), .ref (am 4), .ref (am 5), .ref (am 6), .ref (am 7), .ref (am 8), .int 0, .ref (am 9), .int 0, .ref (am 10), .int 0, .ref (am 11), .ref (am 12), .int 0, .int 0, .int 1, .null, .null, .int 0, .int 0, .int 0, .long 0, .int 0, .ref (am 13), .int 0, .int 0, .int 0, .ref (am 14), .ref (am 15), .ref (am 16), .ref (am 17), .int 0, .ref (am 18), .ref (am 19), .ref (am 20)])), ((am 9), .inl (k 0, 8, .inl (fun _ => 0)))] : va_W)) (wr := []) (isC := [0, 1]) (isR := []) hP hD hS hA rfl rfl (by decide) (by decide) (gx_runV (na := 3) (As := [.int (xs 1), .int (xs 2), .int (xs 3)]) (rest := [.int r_3]) (ci := 5) C hl.1 hK (gx_subP (wc := ([(hm, .inr (5, [.ref (am 1), .ref (am 2), .ref (am 3), .ref (am 4), .ref (am 5), .ref (am 6), .ref (am 7), .ref (am 8), .int 0, .ref (am 9), .int 0, .ref (am 10), .int 0, .ref (am 11), .ref (am 12), .int 0, .int 0, .int 1, .null, .null, .int 0, .int 0, .int 0, .long 0, .int 0, .ref (am 13), .int 0, .int 0, .int 0, .ref (am 14), .ref (am 15), .ref (am 16), .ref (am 17), .int 0, .ref (am 18), .ref (am 19), .ref (am 20)])), ((am 9), .inl (k 0, 8, .inl (fun _ => 0)))] : va_W)) hP [0, 1] rfl) ((hD.sub (ws' := ([(hm, .inr (5, [.ref (am 1), .ref (am 2), .ref (am 3), .ref (am 4), .ref (am 5), .ref (am 6), .ref (am 7), .ref (am 8), .int 0, .ref (am 9), .int 0, .ref (am 10), .int 0, .ref (am 11), .ref (am 12), .int 0, .int 0, .int 1, .null, .null, .int 0, .int 0, .int 0, .long 0, .int 0, .ref (am 13), .int 0, .int 0, .int 0, .ref (am 14), .ref (am 15), .ref (am 16), .ref (am 17), .int 0, .ref (am 18), .ref (am 19), .ref (am 20)])), ((am 9), .inl (k 0, 8, .inl (fun _ => 0)))] : va_W)) [0, 1] (by decide) rfl).weaken (fun _ _ _ _ => trivial)) (m_lives_pub l D k hm am (xs 1) (xs 2) (xs 3) _) gV_R_law_132 (by decide +kernel) rfl rfl ⟨Nat.le_of_ble_eq_true rfl, Nat.le_of_ble_eq_true rfl⟩ rfl rfl rfl rfl (Nat.le_of_ble_eq_true rfl) dL_law_1152 ⟨Nat.le_of_ble_eq_true rfl, Nat.le_of_ble_eq_true rfl⟩) (fun r_7 u_5 H locs h_6 hP hD hS => ?_)
  have h_6 : r_7 = -2 := h_6
  have hP : va_P D gx_cl [] H := hP
  have hD : va_D A [] := hD
  refine lv_icmp_eq (tgt := 1806) hx hb dL_law_1155 (by decide) (fun c_9 => ?_) (fun c_9 => absurd (h_2.trans h_6.symm) c_9)
  exact lc_next C0 hS (Nat.le_of_ble_eq_true rfl) (Nat.le_of_ble_eq_true rfl) (lv_sub hl [0, 3] rfl)
set_option maxHeartbeats 4000000 in
set_option maxRecDepth 100000 in
theorem lc_judge {p : Program} {l : Launch} {e : Env} {s : State} {m : MethodId} {below : List Frame} {meth : Method} {c : Code} {b : Nat} {xs : Nat → Int32} {D : va_G} {k : Nat → ClassId} {A : Nat → Prop} (C0 : lc_C p s m meth c b xs D k A) (ad : Nat → Nat) (hm : Nat) (am : Nat → Nat) (H : Heap) (locs : List Loc) (ls : Array Slot) (hP : va_P D gx_cl [((ad 0), .inr (4, [.ref (ad 1), .ref (ad 2), .ref (ad 3), .ref (ad 4), .ref (ad 5), .ref (ad 6), .ref (ad 7), .ref (ad 8), .ref (ad 9), .int 0])), ((ad 1), .inr (0, [.ref (ad 10), .ref (ad 11), .ref (ad 12), .ref (ad 13), .ref (ad 14), .ref (ad 15), .ref (ad 16), .ref (ad 17), .ref (ad 18), .int 0, .int 0, .int 0, .int 0, .int 1, .int 0, .int 0, .int 0])), ((ad 9), .inl (k 0, 5, .inl (fun _ => 0))), (hm, .inr (5, [.ref (am 1), .ref (am 2), .ref (am 3), .ref (am 4), .ref (am 5), .ref (am 6), .ref (am 7), .ref (am 8), .int 0, .ref (am 9), .int 0, .ref (am 10), .int 0, .ref (am 11), .ref (am 12), .int 0, .int 0, .int 1, .null, .null, .int 0, .int 0, .int 0, .long 0, .int 0, .ref (am 13), .int 0, .int 0, .int 0, .ref (am 14), .ref (am 15), .ref (am 16), .ref (am 17), .int 0, .ref (am 18), .ref (am 19), .ref (am 20)])), ((am 9), .inl (k 0, 8, .inl (fun _ => 0)))] H) (hD : va_D A [((ad 0), .inr (4, [.ref (ad 1), .ref (ad 2), .ref (ad 3), .ref (ad 4), .ref (ad 5), .ref (ad 6), .ref (ad 7), .ref (ad 8), .ref (ad 9), .int 0])), ((ad 1), .inr (0, [.ref (ad 10), .ref (ad 11), .ref (ad 12), .ref (ad 13), .ref (ad 14), .ref (ad 15), .ref (ad 16), .ref (ad 17), .ref (ad 18), .int 0, .int 0, .int 0, .int 0, .int 1, .int 0, .int 0, .int 0])), ((ad 9), .inl (k 0, 5, .inl (fun _ => 0))), (hm, .inr (5, [.ref (am 1), .ref (am 2), .ref (am 3), .ref (am 4), .ref (am 5), .ref (am 6), .ref (am 7), .ref (am 8), .int 0, .ref (am 9), .int 0, .ref (am 10), .int 0, .ref (am 11), .ref (am 12), .int 0, .int 0, .int 1, .null, .null, .int 0, .int 0, .int 0, .long 0, .int 0, .ref (am 13), .int 0, .int 0, .int 0, .ref (am 14), .ref (am 15), .ref (am 16), .ref (am 17), .int 0, .ref (am 18), .ref (am 19), .ref (am 20)])), ((am 9), .inl (k 0, 8, .inl (fun _ => 0)))]) (hS : va_S A s.heap H locs) (hl : lv_has ls 4 [(3, .int 0), (2, .ref hm), (1, .ref (ad 0)), (0, .ref b)]) : W p l e room_1 s m #[Value.ref b] below meth c H locs 1140 19699 (lw_Z below #[Value.ref b] s) (F0 m 1160 ls []) := by
  obtain ⟨C, hK, hX, hbl, hA, hA2, hbA⟩ := id C0
  obtain ⟨hx, hb, hr, hml, hown, hT, hlk, -⟩ := id C
  refine lv_aload_n hx hb dL_law_1160 rfl (lv_at hl 2 rfl) ?_
  refine lv_aload_n hx hb dL_law_1161 rfl (lv_at hl 3 rfl) ?_
  refine lv_iload_n hx hb dL_law_1162 rfl (lv_at hl 0 rfl) ?_
  refine lv_iconst (v := 1) hx hb dL_law_1163 (by decide) ?_
  refine lv_iadd hx hb dL_law_1164 ?_
  refine gx_cst (v := 1) (by decide) ?_
  refine va_sld hx hb hX hbl hbA hS (gx_vin rfl) dL_law_1165 ?_
  refine gx_cst (v := (xs 1)) rfl ?_
  refine lv_aload_n hx hb dL_law_1166 rfl (lv_at hl 3 rfl) ?_
  refine lv_iload_n hx hb dL_law_1167 rfl (lv_at hl 0 rfl) ?_
  refine lv_iconst (v := 2) hx hb dL_law_1168 (by decide) ?_
  refine lv_iadd hx hb dL_law_1169 ?_
  refine gx_cst (v := 2) (by decide) ?_
  refine va_sld hx hb hX hbl hbA hS (gx_vin rfl) dL_law_1170 ?_
  refine gx_cst (v := (xs 2)) rfl ?_
  refine lv_aload_n hx hb dL_law_1171 rfl (lv_at hl 3 rfl) ?_
  refine lv_iload_n hx hb dL_law_1172 rfl (lv_at hl 0 rfl) ?_
  refine lv_iconst (v := 3) hx hb dL_law_1173 (by decide) ?_
  refine lv_iadd hx hb dL_law_1174 ?_
  refine gx_cst (v := 3) (by decide) ?_
  refine va_sld hx hb hX hbl hbA hS (gx_vin rfl) dL_law_1175 ?_
  refine gx_cst (v := (xs 3)) rfl ?_
  refine gx_ei (wc := ([((ad 0), .inr (4, [.ref (ad 1), .ref (ad 2), .ref (ad 3), .ref (ad 4), .ref (ad 5), .ref (ad 6), .ref (ad 7), .ref (ad 8), .ref (ad 9), .int 0])), ((ad 1), .inr (0, [.ref (ad 10), .ref (ad 11), .ref (ad 12), .ref (ad 13), .ref (ad 14), .ref (ad 15), .ref (ad 16), .ref (ad 17), .ref (ad 18), .int 0, .int 0, .int 0, .int 0, .int 1, .int 0, .int 0, .int 0])), ((ad 9), .inl (k 0, 5, .inl (fun _ => 0)))] : va_W)) (wr := [(hm, .inr (5, [.ref (am 1), .ref (am 2), .ref (am 3), .ref (am 4), .ref (am 5), .ref (am 6), .ref (am 7), .ref (am 8), .int 0, .ref (am 9), .int 0, .ref (am 10), .int 0, .ref (am 11), .ref (am 12), .int 0, .int 0, .int 1, .null, .null, .int 0, .int 0, .int 0, .long 0, .int 0, .ref (am 13), .int 0, .int 0, .int 0, .ref (am 14), .ref (am 15), .ref (am 16), .ref (am 17), .int 0, .ref (am 18), .ref (am 19), .ref (am 20)])), ((am 9), .inl (k 0, 8, .inl (fun _ => 0)))]) (isC := [0, 1, 2]) (isR := [3, 4]) hP hD hS hA rfl rfl (by decide) (by decide) (gx_runV (na := 3) (As := [.int (xs 1), .int (xs 2), .int (xs 3)]) (rest := []) (ci := 4) C hl.1 hK (gx_subP (wc := ([((ad 0), .inr (4, [.ref (ad 1), .ref (ad 2), .ref (ad 3), .ref (ad 4), .ref (ad 5), .ref (ad 6), .ref (ad 7), .ref (ad 8), .ref (ad 9), .int 0])), ((ad 1), .inr (0, [.ref (ad 10), .ref (ad 11), .ref (ad 12), .ref (ad 13), .ref (ad 14), .ref (ad 15), .ref (ad 16), .ref (ad 17), .ref (ad 18), .int 0, .int 0, .int 0, .int 0, .int 1, .int 0, .int 0, .int 0])), ((ad 9), .inl (k 0, 5, .inl (fun _ => 0)))] : va_W)) hP [0, 1, 2] rfl) ((hD.sub (ws' := ([((ad 0), .inr (4, [.ref (ad 1), .ref (ad 2), .ref (ad 3), .ref (ad 4), .ref (ad 5), .ref (ad 6), .ref (ad 7), .ref (ad 8), .ref (ad 9), .int 0])), ((ad 1), .inr (0, [.ref (ad 10), .ref (ad 11), .ref (ad 12), .ref (ad 13), .ref (ad 14), .ref (ad 15), .ref (ad 16), .ref (ad 17), .ref (ad 18), .int 0, .int 0, .int 0, .int 0, .int 1, .int 0, .int 0, .int 0])), ((ad 9), .inl (k 0, 5, .inl (fun _ => 0)))] : va_W)) [0, 1, 2] (by decide) rfl).weaken (fun _ _ _ _ => trivial)) (x_judge l D k ad (xs 1) (xs 2) (xs 3) _) gV_R_law_133 (by decide +kernel) rfl rfl ⟨Nat.le_of_ble_eq_true rfl, Nat.le_of_ble_eq_true rfl⟩ rfl rfl rfl rfl (Nat.le_of_ble_eq_true rfl) dL_law_1176 ⟨Nat.le_of_ble_eq_true rfl, Nat.le_of_ble_eq_true rfl⟩) (fun r_3 u_1 H locs h_2 hP hD hS => ?_)
  have h_2 : r_3 = -2 := h_2
  have hP : va_P D gx_cl [(hm, .inr (5, [.ref (am 1), .ref (am 2), .ref (am 3), .ref (am 4), .ref (am 5), .ref (am 6), .ref (am 7), .ref (am 8), .int 0, .ref (am 9), .int 0, .ref (am 10), .int 0, .ref (am 11), .ref (am 12), .int 0, .int 0, .int 1, .null, .null, .int 0, .int 0, .int 0, .long 0, .int 0, .ref (am 13), .int 0, .int 0, .int 0, .ref (am 14), .ref (am 15), .ref (am 16), .ref (am 17), .int 0, .ref (am 18), .ref (am 19), .ref (am 20)])), ((am 9), .inl (k 0, 8, .inl (fun _ => 0)))] H := hP
  have hD : va_D A [(hm, .inr (5, [.ref (am 1), .ref (am 2), .ref (am 3), .ref (am 4), .ref (am 5), .ref (am 6), .ref (am 7), .ref (am 8), .int 0, .ref (am 9), .int 0, .ref (am 10), .int 0, .ref (am 11), .ref (am 12), .int 0, .int 0, .int 1, .null, .null, .int 0, .int 0, .int 0, .long 0, .int 0, .ref (am 13), .int 0, .int 0, .int 0, .ref (am 14), .ref (am 15), .ref (am 16), .ref (am 17), .int 0, .ref (am 18), .ref (am 19), .ref (am 20)])), ((am 9), .inl (k 0, 8, .inl (fun _ => 0)))] := hD
  refine lv_aload_n hx hb dL_law_1179 rfl (lv_at hl 1 rfl) ?_
  refine lv_aload_n hx hb dL_law_1180 rfl (lv_at hl 3 rfl) ?_
  refine lv_iload_n hx hb dL_law_1181 rfl (lv_at hl 0 rfl) ?_
  refine lv_iconst (v := 1) hx hb dL_law_1182 (by decide) ?_
  refine lv_iadd hx hb dL_law_1183 ?_
  refine gx_cst (v := 1) (by decide) ?_
  refine va_sld hx hb hX hbl hbA hS (gx_vin rfl) dL_law_1184 ?_
  refine gx_cst (v := (xs 1)) rfl ?_
  refine lv_aload_n hx hb dL_law_1185 rfl (lv_at hl 3 rfl) ?_
  refine lv_iload_n hx hb dL_law_1186 rfl (lv_at hl 0 rfl) ?_
  refine lv_iconst (v := 2) hx hb dL_law_1187 (by decide) ?_
  refine lv_iadd hx hb dL_law_1188 ?_
  refine gx_cst (v := 2) (by decide) ?_
  refine va_sld hx hb hX hbl hbA hS (gx_vin rfl) dL_law_1189 ?_
  refine gx_cst (v := (xs 2)) rfl ?_
  refine lv_aload_n hx hb dL_law_1190 rfl (lv_at hl 3 rfl) ?_
  refine lv_iload_n hx hb dL_law_1191 rfl (lv_at hl 0 rfl) ?_
  refine lv_iconst (v := 3) hx hb dL_law_1192 (by decide) ?_
  refine lv_iadd hx hb dL_law_1193 ?_
  refine gx_cst (v := 3) (by decide) ?_
  refine va_sld hx hb hX hbl hbA hS (gx_vin rfl) dL_law_1194 ?_
  refine gx_cst (v := (xs 3)) rfl ?_
  refine gx_ei (wc := ([(hm, .inr (5, [.ref (am 1), .ref (am 2), .ref (am 3), .ref (am 4), .ref (am 5), .ref (am 6), .ref (am 7), .ref (am 8), .int 0, .ref (am 9), .int 0, .ref (am 10), .int 0, .ref (am 11), .ref (am 12), .int 0, .int 0, .int 1, .null, .null, .int 0, .int 0, .int 0, .long 0, .int 0, .ref (am 13), .int 0, .int 0, .int 0, .ref (am 14), .ref (am 15), .ref (am 16), .ref (am 17), .int 0, .ref (am 18), .ref (am 19), .ref (am 20)])), ((am 9), .inl (k 0, 8, .inl (fun _ => 0)))] : va_W)) (wr := []) (isC := [0, 1]) (isR := []) hP hD hS hA rfl rfl (by decide) (by decide) (gx_runV (na := 3) (As := [.int (xs 1), .int (xs 2), .int (xs 3)]) (rest := [.int r_3]) (ci := 5) C hl.1 hK (gx_subP (wc := ([(hm, .inr (5, [.ref (am 1), .ref (am 2), .ref (am 3), .ref (am 4), .ref (am 5), .ref (am 6), .ref (am 7), .ref (am 8), .int 0, .ref (am 9), .int 0, .ref (am 10), .int 0, .ref (am 11), .ref (am 12), .int 0, .int 0, .int 1, .null, .null, .int 0, .int 0, .int 0, .long 0, .int 0, .ref (am 13), .int 0, .int 0, .int 0, .ref (am 14), .ref (am 15), .ref (am 16), .ref (am 17), .int 0, .ref (am 18), .ref (am 19), .ref (am 20)])), ((am 9), .inl (k 0, 8, .inl (fun _ => 0)))] : va_W)) hP [0, 1] rfl) ((hD.sub (ws' := ([(hm, .inr (5, [.ref (am 1), .ref (am 2), .ref (am 3), .ref (am 4), .ref (am 5), .ref (am 6), .ref (am 7), .ref (am 8), .int 0, .ref (am 9), .int 0, .ref (am 10), .int 0, .ref (am 11), .ref (am 12), .int 0, .int 0, .int 1, .null, .null, .int 0, .int 0, .int 0, .long 0, .int 0, .ref (am 13), .int 0, .int 0, .int 0, .ref (am 14), .ref (am 15), .ref (am 16), .ref (am 17), .int 0, .ref (am 18), .ref (am 19), .ref (am 20)])), ((am 9), .inl (k 0, 8, .inl (fun _ => 0)))] : va_W)) [0, 1] (by decide) rfl).weaken (fun _ _ _ _ => trivial)) (m_judge_pub l D k hm am (xs 1) (xs 2) (xs 3) _) gV_R_law_136 (by decide +kernel) rfl rfl ⟨Nat.le_of_ble_eq_true rfl, Nat.le_of_ble_eq_true rfl⟩ rfl rfl rfl rfl (Nat.le_of_ble_eq_true rfl) dL_law_1195 ⟨Nat.le_of_ble_eq_true rfl, Nat.le_of_ble_eq_true rfl⟩) (fun r_7 u_5 H locs h_6 hP hD hS => ?_)
  have h_6 : r_7 = -2 := h_6
  have hP : va_P D gx_cl [] H := hP
  have hD : va_D A [] := hD
  refine lv_icmp_eq (tgt := 1806) hx hb dL_law_1198 (by decide) (fun c_9 => ?_) (fun c_9 => absurd (h_2.trans h_6.symm) c_9)
  exact lc_next C0 hS (Nat.le_of_ble_eq_true rfl) (Nat.le_of_ble_eq_true rfl) (lv_sub hl [0, 3] rfl)
set_option maxHeartbeats 4000000 in
set_option maxRecDepth 100000 in
theorem lc_told {p : Program} {l : Launch} {e : Env} {s : State} {m : MethodId} {below : List Frame} {meth : Method} {c : Code} {b : Nat} {xs : Nat → Int32} {D : va_G} {k : Nat → ClassId} {A : Nat → Prop} (C0 : lc_C p s m meth c b xs D k A) (ad : Nat → Nat) (hm : Nat) (am : Nat → Nat) (H : Heap) (locs : List Loc) (ls : Array Slot) (hP : va_P D gx_cl [((ad 0), .inr (4, [.ref (ad 1), .ref (ad 2), .ref (ad 3), .ref (ad 4), .ref (ad 5), .ref (ad 6), .ref (ad 7), .ref (ad 8), .ref (ad 9), .int 0])), ((ad 1), .inr (0, [.ref (ad 10), .ref (ad 11), .ref (ad 12), .ref (ad 13), .ref (ad 14), .ref (ad 15), .ref (ad 16), .ref (ad 17), .ref (ad 18), .int 0, .int 0, .int 0, .int 0, .int 1, .int 0, .int 0, .int 0])), ((ad 9), .inl (k 0, 5, .inl (fun _ => 0))), (hm, .inr (5, [.ref (am 1), .ref (am 2), .ref (am 3), .ref (am 4), .ref (am 5), .ref (am 6), .ref (am 7), .ref (am 8), .int 0, .ref (am 9), .int 0, .ref (am 10), .int 0, .ref (am 11), .ref (am 12), .int 0, .int 0, .int 1, .null, .null, .int 0, .int 0, .int 0, .long 0, .int 0, .ref (am 13), .int 0, .int 0, .int 0, .ref (am 14), .ref (am 15), .ref (am 16), .ref (am 17), .int 0, .ref (am 18), .ref (am 19), .ref (am 20)])), ((am 9), .inl (k 0, 8, .inl (fun _ => 0)))] H) (hD : va_D A [((ad 0), .inr (4, [.ref (ad 1), .ref (ad 2), .ref (ad 3), .ref (ad 4), .ref (ad 5), .ref (ad 6), .ref (ad 7), .ref (ad 8), .ref (ad 9), .int 0])), ((ad 1), .inr (0, [.ref (ad 10), .ref (ad 11), .ref (ad 12), .ref (ad 13), .ref (ad 14), .ref (ad 15), .ref (ad 16), .ref (ad 17), .ref (ad 18), .int 0, .int 0, .int 0, .int 0, .int 1, .int 0, .int 0, .int 0])), ((ad 9), .inl (k 0, 5, .inl (fun _ => 0))), (hm, .inr (5, [.ref (am 1), .ref (am 2), .ref (am 3), .ref (am 4), .ref (am 5), .ref (am 6), .ref (am 7), .ref (am 8), .int 0, .ref (am 9), .int 0, .ref (am 10), .int 0, .ref (am 11), .ref (am 12), .int 0, .int 0, .int 1, .null, .null, .int 0, .int 0, .int 0, .long 0, .int 0, .ref (am 13), .int 0, .int 0, .int 0, .ref (am 14), .ref (am 15), .ref (am 16), .ref (am 17), .int 0, .ref (am 18), .ref (am 19), .ref (am 20)])), ((am 9), .inl (k 0, 8, .inl (fun _ => 0)))]) (hS : va_S A s.heap H locs) (hl : lv_has ls 4 [(3, .int 0), (2, .ref hm), (1, .ref (ad 0)), (0, .ref b)]) : W p l e room_1 s m #[Value.ref b] below meth c H locs 1140 19699 (lw_Z below #[Value.ref b] s) (F0 m 1203 ls []) := by
  obtain ⟨C, hK, hX, hbl, hA, hA2, hbA⟩ := id C0
  obtain ⟨hx, hb, hr, hml, hown, hT, hlk, -⟩ := id C
  refine lv_aload_n hx hb dL_law_1203 rfl (lv_at hl 2 rfl) ?_
  refine lv_aload_n hx hb dL_law_1204 rfl (lv_at hl 3 rfl) ?_
  refine lv_iload_n hx hb dL_law_1205 rfl (lv_at hl 0 rfl) ?_
  refine lv_iconst (v := 1) hx hb dL_law_1206 (by decide) ?_
  refine lv_iadd hx hb dL_law_1207 ?_
  refine gx_cst (v := 1) (by decide) ?_
  refine va_sld hx hb hX hbl hbA hS (gx_vin rfl) dL_law_1208 ?_
  refine gx_cst (v := (xs 1)) rfl ?_
  refine lv_aload_n hx hb dL_law_1209 rfl (lv_at hl 3 rfl) ?_
  refine lv_iload_n hx hb dL_law_1210 rfl (lv_at hl 0 rfl) ?_
  refine lv_iconst (v := 2) hx hb dL_law_1211 (by decide) ?_
  refine lv_iadd hx hb dL_law_1212 ?_
  refine gx_cst (v := 2) (by decide) ?_
  refine va_sld hx hb hX hbl hbA hS (gx_vin rfl) dL_law_1213 ?_
  refine gx_cst (v := (xs 2)) rfl ?_
  refine lv_aload_n hx hb dL_law_1214 rfl (lv_at hl 3 rfl) ?_
  refine lv_iload_n hx hb dL_law_1215 rfl (lv_at hl 0 rfl) ?_
  refine lv_iconst (v := 3) hx hb dL_law_1216 (by decide) ?_
  refine lv_iadd hx hb dL_law_1217 ?_
  refine gx_cst (v := 3) (by decide) ?_
  refine va_sld hx hb hX hbl hbA hS (gx_vin rfl) dL_law_1218 ?_
  refine gx_cst (v := (xs 3)) rfl ?_
  refine lv_aload_n hx hb dL_law_1219 rfl (lv_at hl 3 rfl) ?_
  refine lv_iload_n hx hb dL_law_1220 rfl (lv_at hl 0 rfl) ?_
  refine lv_iconst (v := 4) hx hb dL_law_1221 (by decide) ?_
  refine lv_iadd hx hb dL_law_1222 ?_
  refine gx_cst (v := 4) (by decide) ?_
  refine va_sld hx hb hX hbl hbA hS (gx_vin rfl) dL_law_1223 ?_
  refine gx_cst (v := (xs 4)) rfl ?_
  refine gx_ei (wc := ([((ad 0), .inr (4, [.ref (ad 1), .ref (ad 2), .ref (ad 3), .ref (ad 4), .ref (ad 5), .ref (ad 6), .ref (ad 7), .ref (ad 8), .ref (ad 9), .int 0])), ((ad 1), .inr (0, [.ref (ad 10), .ref (ad 11), .ref (ad 12), .ref (ad 13), .ref (ad 14), .ref (ad 15), .ref (ad 16), .ref (ad 17), .ref (ad 18), .int 0, .int 0, .int 0, .int 0, .int 1, .int 0, .int 0, .int 0])), ((ad 9), .inl (k 0, 5, .inl (fun _ => 0)))] : va_W)) (wr := [(hm, .inr (5, [.ref (am 1), .ref (am 2), .ref (am 3), .ref (am 4), .ref (am 5), .ref (am 6), .ref (am 7), .ref (am 8), .int 0, .ref (am 9), .int 0, .ref (am 10), .int 0, .ref (am 11), .ref (am 12), .int 0, .int 0, .int 1, .null, .null, .int 0, .int 0, .int 0, .long 0, .int 0, .ref (am 13), .int 0, .int 0, .int 0, .ref (am 14), .ref (am 15), .ref (am 16), .ref (am 17), .int 0, .ref (am 18), .ref (am 19), .ref (am 20)])), ((am 9), .inl (k 0, 8, .inl (fun _ => 0)))]) (isC := [0, 1, 2]) (isR := [3, 4]) hP hD hS hA rfl rfl (by decide) (by decide) (gx_runV (na := 4) (As := [.int (xs 1), .int (xs 2), .int (xs 3), .int (xs 4)]) (rest := []) (ci := 4) C hl.1 hK (gx_subP (wc := ([((ad 0), .inr (4, [.ref (ad 1), .ref (ad 2), .ref (ad 3), .ref (ad 4), .ref (ad 5), .ref (ad 6), .ref (ad 7), .ref (ad 8), .ref (ad 9), .int 0])), ((ad 1), .inr (0, [.ref (ad 10), .ref (ad 11), .ref (ad 12), .ref (ad 13), .ref (ad 14), .ref (ad 15), .ref (ad 16), .ref (ad 17), .ref (ad 18), .int 0, .int 0, .int 0, .int 0, .int 1, .int 0, .int 0, .int 0])), ((ad 9), .inl (k 0, 5, .inl (fun _ => 0)))] : va_W)) hP [0, 1, 2] rfl) ((hD.sub (ws' := ([((ad 0), .inr (4, [.ref (ad 1), .ref (ad 2), .ref (ad 3), .ref (ad 4), .ref (ad 5), .ref (ad 6), .ref (ad 7), .ref (ad 8), .ref (ad 9), .int 0])), ((ad 1), .inr (0, [.ref (ad 10), .ref (ad 11), .ref (ad 12), .ref (ad 13), .ref (ad 14), .ref (ad 15), .ref (ad 16), .ref (ad 17), .ref (ad 18), .int 0, .int 0, .int 0, .int 0, .int 1, .int 0, .int 0, .int 0])), ((ad 9), .inl (k 0, 5, .inl (fun _ => 0)))] : va_W)) [0, 1, 2] (by decide) rfl).weaken (fun _ _ _ _ => trivial)) (x_told l D k ad (xs 1) (xs 2) (xs 3) (xs 4) _) gV_R_law_137 (by decide +kernel) rfl rfl ⟨Nat.le_of_ble_eq_true rfl, Nat.le_of_ble_eq_true rfl⟩ rfl rfl rfl rfl (Nat.le_of_ble_eq_true rfl) dL_law_1224 ⟨Nat.le_of_ble_eq_true rfl, Nat.le_of_ble_eq_true rfl⟩) (fun r_3 u_1 H locs h_2 hP hD hS => ?_)
  have h_2 : r_3 = -2 := h_2
  have hP : va_P D gx_cl [(hm, .inr (5, [.ref (am 1), .ref (am 2), .ref (am 3), .ref (am 4), .ref (am 5), .ref (am 6), .ref (am 7), .ref (am 8), .int 0, .ref (am 9), .int 0, .ref (am 10), .int 0, .ref (am 11), .ref (am 12), .int 0, .int 0, .int 1, .null, .null, .int 0, .int 0, .int 0, .long 0, .int 0, .ref (am 13), .int 0, .int 0, .int 0, .ref (am 14), .ref (am 15), .ref (am 16), .ref (am 17), .int 0, .ref (am 18), .ref (am 19), .ref (am 20)])), ((am 9), .inl (k 0, 8, .inl (fun _ => 0)))] H := hP
  have hD : va_D A [(hm, .inr (5, [.ref (am 1), .ref (am 2), .ref (am 3), .ref (am 4), .ref (am 5), .ref (am 6), .ref (am 7), .ref (am 8), .int 0, .ref (am 9), .int 0, .ref (am 10), .int 0, .ref (am 11), .ref (am 12), .int 0, .int 0, .int 1, .null, .null, .int 0, .int 0, .int 0, .long 0, .int 0, .ref (am 13), .int 0, .int 0, .int 0, .ref (am 14), .ref (am 15), .ref (am 16), .ref (am 17), .int 0, .ref (am 18), .ref (am 19), .ref (am 20)])), ((am 9), .inl (k 0, 8, .inl (fun _ => 0)))] := hD
  refine lv_aload_n hx hb dL_law_1227 rfl (lv_at hl 1 rfl) ?_
  refine lv_aload_n hx hb dL_law_1228 rfl (lv_at hl 3 rfl) ?_
  refine lv_iload_n hx hb dL_law_1229 rfl (lv_at hl 0 rfl) ?_
  refine lv_iconst (v := 1) hx hb dL_law_1230 (by decide) ?_
  refine lv_iadd hx hb dL_law_1231 ?_
  refine gx_cst (v := 1) (by decide) ?_
  refine va_sld hx hb hX hbl hbA hS (gx_vin rfl) dL_law_1232 ?_
  refine gx_cst (v := (xs 1)) rfl ?_
  refine lv_aload_n hx hb dL_law_1233 rfl (lv_at hl 3 rfl) ?_
  refine lv_iload_n hx hb dL_law_1234 rfl (lv_at hl 0 rfl) ?_
  refine lv_iconst (v := 2) hx hb dL_law_1235 (by decide) ?_
  refine lv_iadd hx hb dL_law_1236 ?_
  refine gx_cst (v := 2) (by decide) ?_
  refine va_sld hx hb hX hbl hbA hS (gx_vin rfl) dL_law_1237 ?_
  refine gx_cst (v := (xs 2)) rfl ?_
  refine lv_aload_n hx hb dL_law_1238 rfl (lv_at hl 3 rfl) ?_
  refine lv_iload_n hx hb dL_law_1239 rfl (lv_at hl 0 rfl) ?_
  refine lv_iconst (v := 3) hx hb dL_law_1240 (by decide) ?_
  refine lv_iadd hx hb dL_law_1241 ?_
  refine gx_cst (v := 3) (by decide) ?_
  refine va_sld hx hb hX hbl hbA hS (gx_vin rfl) dL_law_1242 ?_
  refine gx_cst (v := (xs 3)) rfl ?_
  refine lv_aload_n hx hb dL_law_1243 rfl (lv_at hl 3 rfl) ?_
  refine lv_iload_n hx hb dL_law_1244 rfl (lv_at hl 0 rfl) ?_
  refine lv_iconst (v := 4) hx hb dL_law_1245 (by decide) ?_
  refine lv_iadd hx hb dL_law_1246 ?_
  refine gx_cst (v := 4) (by decide) ?_
  refine va_sld hx hb hX hbl hbA hS (gx_vin rfl) dL_law_1247 ?_
  refine gx_cst (v := (xs 4)) rfl ?_
  refine gx_ei (wc := ([(hm, .inr (5, [.ref (am 1), .ref (am 2), .ref (am 3), .ref (am 4), .ref (am 5), .ref (am 6), .ref (am 7), .ref (am 8), .int 0, .ref (am 9), .int 0, .ref (am 10), .int 0, .ref (am 11), .ref (am 12), .int 0, .int 0, .int 1, .null, .null, .int 0, .int 0, .int 0, .long 0, .int 0, .ref (am 13), .int 0, .int 0, .int 0, .ref (am 14), .ref (am 15), .ref (am 16), .ref (am 17), .int 0, .ref (am 18), .ref (am 19), .ref (am 20)])), ((am 9), .inl (k 0, 8, .inl (fun _ => 0)))] : va_W)) (wr := []) (isC := [0, 1]) (isR := []) hP hD hS hA rfl rfl (by decide) (by decide) (gx_runV (na := 4) (As := [.int (xs 1), .int (xs 2), .int (xs 3), .int (xs 4)]) (rest := [.int r_3]) (ci := 5) C hl.1 hK (gx_subP (wc := ([(hm, .inr (5, [.ref (am 1), .ref (am 2), .ref (am 3), .ref (am 4), .ref (am 5), .ref (am 6), .ref (am 7), .ref (am 8), .int 0, .ref (am 9), .int 0, .ref (am 10), .int 0, .ref (am 11), .ref (am 12), .int 0, .int 0, .int 1, .null, .null, .int 0, .int 0, .int 0, .long 0, .int 0, .ref (am 13), .int 0, .int 0, .int 0, .ref (am 14), .ref (am 15), .ref (am 16), .ref (am 17), .int 0, .ref (am 18), .ref (am 19), .ref (am 20)])), ((am 9), .inl (k 0, 8, .inl (fun _ => 0)))] : va_W)) hP [0, 1] rfl) ((hD.sub (ws' := ([(hm, .inr (5, [.ref (am 1), .ref (am 2), .ref (am 3), .ref (am 4), .ref (am 5), .ref (am 6), .ref (am 7), .ref (am 8), .int 0, .ref (am 9), .int 0, .ref (am 10), .int 0, .ref (am 11), .ref (am 12), .int 0, .int 0, .int 1, .null, .null, .int 0, .int 0, .int 0, .long 0, .int 0, .ref (am 13), .int 0, .int 0, .int 0, .ref (am 14), .ref (am 15), .ref (am 16), .ref (am 17), .int 0, .ref (am 18), .ref (am 19), .ref (am 20)])), ((am 9), .inl (k 0, 8, .inl (fun _ => 0)))] : va_W)) [0, 1] (by decide) rfl).weaken (fun _ _ _ _ => trivial)) (m_told_pub l D k hm am (xs 1) (xs 2) (xs 3) (xs 4) _) gV_R_law_140 (by decide +kernel) rfl rfl ⟨Nat.le_of_ble_eq_true rfl, Nat.le_of_ble_eq_true rfl⟩ rfl rfl rfl rfl (Nat.le_of_ble_eq_true rfl) dL_law_1248 ⟨Nat.le_of_ble_eq_true rfl, Nat.le_of_ble_eq_true rfl⟩) (fun r_7 u_5 H locs h_6 hP hD hS => ?_)
  have h_6 : r_7 = -2 := h_6
  have hP : va_P D gx_cl [] H := hP
  have hD : va_D A [] := hD
  refine lv_icmp_eq (tgt := 1806) hx hb dL_law_1251 (by decide) (fun c_9 => ?_) (fun c_9 => absurd (h_2.trans h_6.symm) c_9)
  exact lc_next C0 hS (Nat.le_of_ble_eq_true rfl) (Nat.le_of_ble_eq_true rfl) (lv_sub hl [0, 3] rfl)
set_option maxHeartbeats 4000000 in
set_option maxRecDepth 100000 in
theorem lc_law {p : Program} {l : Launch} {e : Env} {s : State} {m : MethodId} {below : List Frame} {meth : Method} {c : Code} {b : Nat} {xs : Nat → Int32} {D : va_G} {k : Nat → ClassId} {A : Nat → Prop} (C0 : lc_C p s m meth c b xs D k A) (ad : Nat → Nat) (hm : Nat) (am : Nat → Nat) (H : Heap) (locs : List Loc) (ls : Array Slot) (hP : va_P D gx_cl [((ad 0), .inr (4, [.ref (ad 1), .ref (ad 2), .ref (ad 3), .ref (ad 4), .ref (ad 5), .ref (ad 6), .ref (ad 7), .ref (ad 8), .ref (ad 9), .int 0])), ((ad 1), .inr (0, [.ref (ad 10), .ref (ad 11), .ref (ad 12), .ref (ad 13), .ref (ad 14), .ref (ad 15), .ref (ad 16), .ref (ad 17), .ref (ad 18), .int 0, .int 0, .int 0, .int 0, .int 1, .int 0, .int 0, .int 0])), ((ad 9), .inl (k 0, 5, .inl (fun _ => 0))), (hm, .inr (5, [.ref (am 1), .ref (am 2), .ref (am 3), .ref (am 4), .ref (am 5), .ref (am 6), .ref (am 7), .ref (am 8), .int 0, .ref (am 9), .int 0, .ref (am 10), .int 0, .ref (am 11), .ref (am 12), .int 0, .int 0, .int 1, .null, .null, .int 0, .int 0, .int 0, .long 0, .int 0, .ref (am 13), .int 0, .int 0, .int 0, .ref (am 14), .ref (am 15), .ref (am 16), .ref (am 17), .int 0, .ref (am 18), .ref (am 19), .ref (am 20)])), ((am 9), .inl (k 0, 8, .inl (fun _ => 0)))] H) (hD : va_D A [((ad 0), .inr (4, [.ref (ad 1), .ref (ad 2), .ref (ad 3), .ref (ad 4), .ref (ad 5), .ref (ad 6), .ref (ad 7), .ref (ad 8), .ref (ad 9), .int 0])), ((ad 1), .inr (0, [.ref (ad 10), .ref (ad 11), .ref (ad 12), .ref (ad 13), .ref (ad 14), .ref (ad 15), .ref (ad 16), .ref (ad 17), .ref (ad 18), .int 0, .int 0, .int 0, .int 0, .int 1, .int 0, .int 0, .int 0])), ((ad 9), .inl (k 0, 5, .inl (fun _ => 0))), (hm, .inr (5, [.ref (am 1), .ref (am 2), .ref (am 3), .ref (am 4), .ref (am 5), .ref (am 6), .ref (am 7), .ref (am 8), .int 0, .ref (am 9), .int 0, .ref (am 10), .int 0, .ref (am 11), .ref (am 12), .int 0, .int 0, .int 1, .null, .null, .int 0, .int 0, .int 0, .long 0, .int 0, .ref (am 13), .int 0, .int 0, .int 0, .ref (am 14), .ref (am 15), .ref (am 16), .ref (am 17), .int 0, .ref (am 18), .ref (am 19), .ref (am 20)])), ((am 9), .inl (k 0, 8, .inl (fun _ => 0)))]) (hS : va_S A s.heap H locs) (hl : lv_has ls 4 [(3, .int 0), (2, .ref hm), (1, .ref (ad 0)), (0, .ref b)]) : W p l e room_1 s m #[Value.ref b] below meth c H locs 1140 19699 (lw_Z below #[Value.ref b] s) (F0 m 1256 ls []) := by
  obtain ⟨C, hK, hX, hbl, hA, hA2, hbA⟩ := id C0
  obtain ⟨hx, hb, hr, hml, hown, hT, hlk, -⟩ := id C
  refine lv_aload_n hx hb dL_law_1256 rfl (lv_at hl 2 rfl) ?_
  refine lv_aload_n hx hb dL_law_1257 rfl (lv_at hl 3 rfl) ?_
  refine lv_iload_n hx hb dL_law_1258 rfl (lv_at hl 0 rfl) ?_
  refine lv_iconst (v := 1) hx hb dL_law_1259 (by decide) ?_
  refine lv_iadd hx hb dL_law_1260 ?_
  refine gx_cst (v := 1) (by decide) ?_
  refine va_sld hx hb hX hbl hbA hS (gx_vin rfl) dL_law_1261 ?_
  refine gx_cst (v := (xs 1)) rfl ?_
  refine lv_aload_n hx hb dL_law_1262 rfl (lv_at hl 3 rfl) ?_
  refine lv_iload_n hx hb dL_law_1263 rfl (lv_at hl 0 rfl) ?_
  refine lv_iconst (v := 2) hx hb dL_law_1264 (by decide) ?_
  refine lv_iadd hx hb dL_law_1265 ?_
  refine gx_cst (v := 2) (by decide) ?_
  refine va_sld hx hb hX hbl hbA hS (gx_vin rfl) dL_law_1266 ?_
  refine gx_cst (v := (xs 2)) rfl ?_
  refine gx_ei (wc := ([((ad 0), .inr (4, [.ref (ad 1), .ref (ad 2), .ref (ad 3), .ref (ad 4), .ref (ad 5), .ref (ad 6), .ref (ad 7), .ref (ad 8), .ref (ad 9), .int 0])), ((ad 1), .inr (0, [.ref (ad 10), .ref (ad 11), .ref (ad 12), .ref (ad 13), .ref (ad 14), .ref (ad 15), .ref (ad 16), .ref (ad 17), .ref (ad 18), .int 0, .int 0, .int 0, .int 0, .int 1, .int 0, .int 0, .int 0])), ((ad 9), .inl (k 0, 5, .inl (fun _ => 0)))] : va_W)) (wr := [(hm, .inr (5, [.ref (am 1), .ref (am 2), .ref (am 3), .ref (am 4), .ref (am 5), .ref (am 6), .ref (am 7), .ref (am 8), .int 0, .ref (am 9), .int 0, .ref (am 10), .int 0, .ref (am 11), .ref (am 12), .int 0, .int 0, .int 1, .null, .null, .int 0, .int 0, .int 0, .long 0, .int 0, .ref (am 13), .int 0, .int 0, .int 0, .ref (am 14), .ref (am 15), .ref (am 16), .ref (am 17), .int 0, .ref (am 18), .ref (am 19), .ref (am 20)])), ((am 9), .inl (k 0, 8, .inl (fun _ => 0)))]) (isC := [0, 1, 2]) (isR := [3, 4]) hP hD hS hA rfl rfl (by decide) (by decide) (gx_runV (na := 2) (As := [.int (xs 1), .int (xs 2)]) (rest := []) (ci := 4) C hl.1 hK (gx_subP (wc := ([((ad 0), .inr (4, [.ref (ad 1), .ref (ad 2), .ref (ad 3), .ref (ad 4), .ref (ad 5), .ref (ad 6), .ref (ad 7), .ref (ad 8), .ref (ad 9), .int 0])), ((ad 1), .inr (0, [.ref (ad 10), .ref (ad 11), .ref (ad 12), .ref (ad 13), .ref (ad 14), .ref (ad 15), .ref (ad 16), .ref (ad 17), .ref (ad 18), .int 0, .int 0, .int 0, .int 0, .int 1, .int 0, .int 0, .int 0])), ((ad 9), .inl (k 0, 5, .inl (fun _ => 0)))] : va_W)) hP [0, 1, 2] rfl) ((hD.sub (ws' := ([((ad 0), .inr (4, [.ref (ad 1), .ref (ad 2), .ref (ad 3), .ref (ad 4), .ref (ad 5), .ref (ad 6), .ref (ad 7), .ref (ad 8), .ref (ad 9), .int 0])), ((ad 1), .inr (0, [.ref (ad 10), .ref (ad 11), .ref (ad 12), .ref (ad 13), .ref (ad 14), .ref (ad 15), .ref (ad 16), .ref (ad 17), .ref (ad 18), .int 0, .int 0, .int 0, .int 0, .int 1, .int 0, .int 0, .int 0])), ((ad 9), .inl (k 0, 5, .inl (fun _ => 0)))] : va_W)) [0, 1, 2] (by decide) rfl).weaken (fun _ _ _ _ => trivial)) (x_law l D k ad (xs 1) (xs 2) _) gV_R_law_141 (by decide +kernel) rfl rfl ⟨Nat.le_of_ble_eq_true rfl, Nat.le_of_ble_eq_true rfl⟩ rfl rfl rfl rfl (Nat.le_of_ble_eq_true rfl) dL_law_1267 ⟨Nat.le_of_ble_eq_true rfl, Nat.le_of_ble_eq_true rfl⟩) (fun r_3 u_1 H locs h_2 hP hD hS => ?_)
  have h_2 : r_3 = -2 := h_2
  have hP : va_P D gx_cl [(hm, .inr (5, [.ref (am 1), .ref (am 2), .ref (am 3), .ref (am 4), .ref (am 5), .ref (am 6), .ref (am 7), .ref (am 8), .int 0, .ref (am 9), .int 0, .ref (am 10), .int 0, .ref (am 11), .ref (am 12), .int 0, .int 0, .int 1, .null, .null, .int 0, .int 0, .int 0, .long 0, .int 0, .ref (am 13), .int 0, .int 0, .int 0, .ref (am 14), .ref (am 15), .ref (am 16), .ref (am 17), .int 0, .ref (am 18), .ref (am 19), .ref (am 20)])), ((am 9), .inl (k 0, 8, .inl (fun _ => 0)))] H := hP
  have hD : va_D A [(hm, .inr (5, [.ref (am 1), .ref (am 2), .ref (am 3), .ref (am 4), .ref (am 5), .ref (am 6), .ref (am 7), .ref (am 8), .int 0, .ref (am 9), .int 0, .ref (am 10), .int 0, .ref (am 11), .ref (am 12), .int 0, .int 0, .int 1, .null, .null, .int 0, .int 0, .int 0, .long 0, .int 0, .ref (am 13), .int 0, .int 0, .int 0, .ref (am 14), .ref (am 15), .ref (am 16), .ref (am 17), .int 0, .ref (am 18), .ref (am 19), .ref (am 20)])), ((am 9), .inl (k 0, 8, .inl (fun _ => 0)))] := hD
  refine lv_aload_n hx hb dL_law_1270 rfl (lv_at hl 1 rfl) ?_
  refine lv_aload_n hx hb dL_law_1271 rfl (lv_at hl 3 rfl) ?_
  refine lv_iload_n hx hb dL_law_1272 rfl (lv_at hl 0 rfl) ?_
  refine lv_iconst (v := 1) hx hb dL_law_1273 (by decide) ?_
  refine lv_iadd hx hb dL_law_1274 ?_
  refine gx_cst (v := 1) (by decide) ?_
  refine va_sld hx hb hX hbl hbA hS (gx_vin rfl) dL_law_1275 ?_
  refine gx_cst (v := (xs 1)) rfl ?_
  refine lv_aload_n hx hb dL_law_1276 rfl (lv_at hl 3 rfl) ?_
  refine lv_iload_n hx hb dL_law_1277 rfl (lv_at hl 0 rfl) ?_
  refine lv_iconst (v := 2) hx hb dL_law_1278 (by decide) ?_
  refine lv_iadd hx hb dL_law_1279 ?_
  refine gx_cst (v := 2) (by decide) ?_
  refine va_sld hx hb hX hbl hbA hS (gx_vin rfl) dL_law_1280 ?_
  refine gx_cst (v := (xs 2)) rfl ?_
  refine gx_ei (wc := ([(hm, .inr (5, [.ref (am 1), .ref (am 2), .ref (am 3), .ref (am 4), .ref (am 5), .ref (am 6), .ref (am 7), .ref (am 8), .int 0, .ref (am 9), .int 0, .ref (am 10), .int 0, .ref (am 11), .ref (am 12), .int 0, .int 0, .int 1, .null, .null, .int 0, .int 0, .int 0, .long 0, .int 0, .ref (am 13), .int 0, .int 0, .int 0, .ref (am 14), .ref (am 15), .ref (am 16), .ref (am 17), .int 0, .ref (am 18), .ref (am 19), .ref (am 20)])), ((am 9), .inl (k 0, 8, .inl (fun _ => 0)))] : va_W)) (wr := []) (isC := [0, 1]) (isR := []) hP hD hS hA rfl rfl (by decide) (by decide) (gx_runV (na := 2) (As := [.int (xs 1), .int (xs 2)]) (rest := [.int r_3]) (ci := 5) C hl.1 hK (gx_subP (wc := ([(hm, .inr (5, [.ref (am 1), .ref (am 2), .ref (am 3), .ref (am 4), .ref (am 5), .ref (am 6), .ref (am 7), .ref (am 8), .int 0, .ref (am 9), .int 0, .ref (am 10), .int 0, .ref (am 11), .ref (am 12), .int 0, .int 0, .int 1, .null, .null, .int 0, .int 0, .int 0, .long 0, .int 0, .ref (am 13), .int 0, .int 0, .int 0, .ref (am 14), .ref (am 15), .ref (am 16), .ref (am 17), .int 0, .ref (am 18), .ref (am 19), .ref (am 20)])), ((am 9), .inl (k 0, 8, .inl (fun _ => 0)))] : va_W)) hP [0, 1] rfl) ((hD.sub (ws' := ([(hm, .inr (5, [.ref (am 1), .ref (am 2), .ref (am 3), .ref (am 4), .ref (am 5), .ref (am 6), .ref (am 7), .ref (am 8), .int 0, .ref (am 9), .int 0, .ref (am 10), .int 0, .ref (am 11), .ref (am 12), .int 0, .int 0, .int 1, .null, .null, .int 0, .int 0, .int 0, .long 0, .int 0, .ref (am 13), .int 0, .int 0, .int 0, .ref (am 14), .ref (am 15), .ref (am 16), .ref (am 17), .int 0, .ref (am 18), .ref (am 19), .ref (am 20)])), ((am 9), .inl (k 0, 8, .inl (fun _ => 0)))] : va_W)) [0, 1] (by decide) rfl).weaken (fun _ _ _ _ => trivial)) (m_law_pub l D k hm am (xs 1) (xs 2) _) gV_R_law_144 (by decide +kernel) rfl rfl ⟨Nat.le_of_ble_eq_true rfl, Nat.le_of_ble_eq_true rfl⟩ rfl rfl rfl rfl (Nat.le_of_ble_eq_true rfl) dL_law_1281 ⟨Nat.le_of_ble_eq_true rfl, Nat.le_of_ble_eq_true rfl⟩) (fun r_7 u_5 H locs h_6 hP hD hS => ?_)
  have h_6 : r_7 = -2 := h_6
  have hP : va_P D gx_cl [] H := hP
  have hD : va_D A [] := hD
  refine lv_icmp_eq (tgt := 1806) hx hb dL_law_1284 (by decide) (fun c_9 => ?_) (fun c_9 => absurd (h_2.trans h_6.symm) c_9)
  exact lc_next C0 hS (Nat.le_of_ble_eq_true rfl) (Nat.le_of_ble_eq_true rfl) (lv_sub hl [0, 3] rfl)
set_option maxHeartbeats 4000000 in
set_option maxRecDepth 100000 in
theorem lc_all {p : Program} {l : Launch} {e : Env} {s : State} {m : MethodId} {below : List Frame} {meth : Method} {c : Code} {b : Nat} {xs : Nat → Int32} {D : va_G} {k : Nat → ClassId} {A : Nat → Prop} (C0 : lc_C p s m meth c b xs D k A) (ad : Nat → Nat) (hm : Nat) (am : Nat → Nat) (H : Heap) (locs : List Loc) (ls : Array Slot) (hP : va_P D gx_cl [((ad 0), .inr (4, [.ref (ad 1), .ref (ad 2), .ref (ad 3), .ref (ad 4), .ref (ad 5), .ref (ad 6), .ref (ad 7), .ref (ad 8), .ref (ad 9), .int 0])), ((ad 1), .inr (0, [.ref (ad 10), .ref (ad 11), .ref (ad 12), .ref (ad 13), .ref (ad 14), .ref (ad 15), .ref (ad 16), .ref (ad 17), .ref (ad 18), .int 0, .int 0, .int 0, .int 0, .int 1, .int 0, .int 0, .int 0])), ((ad 9), .inl (k 0, 5, .inl (fun _ => 0))), (hm, .inr (5, [.ref (am 1), .ref (am 2), .ref (am 3), .ref (am 4), .ref (am 5), .ref (am 6), .ref (am 7), .ref (am 8), .int 0, .ref (am 9), .int 0, .ref (am 10), .int 0, .ref (am 11), .ref (am 12), .int 0, .int 0, .int 1, .null, .null, .int 0, .int 0, .int 0, .long 0, .int 0, .ref (am 13), .int 0, .int 0, .int 0, .ref (am 14), .ref (am 15), .ref (am 16), .ref (am 17), .int 0, .ref (am 18), .ref (am 19), .ref (am 20)])), ((am 9), .inl (k 0, 8, .inl (fun _ => 0)))] H) (hD : va_D A [((ad 0), .inr (4, [.ref (ad 1), .ref (ad 2), .ref (ad 3), .ref (ad 4), .ref (ad 5), .ref (ad 6), .ref (ad 7), .ref (ad 8), .ref (ad 9), .int 0])), ((ad 1), .inr (0, [.ref (ad 10), .ref (ad 11), .ref (ad 12), .ref (ad 13), .ref (ad 14), .ref (ad 15), .ref (ad 16), .ref (ad 17), .ref (ad 18), .int 0, .int 0, .int 0, .int 0, .int 1, .int 0, .int 0, .int 0])), ((ad 9), .inl (k 0, 5, .inl (fun _ => 0))), (hm, .inr (5, [.ref (am 1), .ref (am 2), .ref (am 3), .ref (am 4), .ref (am 5), .ref (am 6), .ref (am 7), .ref (am 8), .int 0, .ref (am 9), .int 0, .ref (am 10), .int 0, .ref (am 11), .ref (am 12), .int 0, .int 0, .int 1, .null, .null, .int 0, .int 0, .int 0, .long 0, .int 0, .ref (am 13), .int 0, .int 0, .int 0, .ref (am 14), .ref (am 15), .ref (am 16), .ref (am 17), .int 0, .ref (am 18), .ref (am 19), .ref (am 20)])), ((am 9), .inl (k 0, 8, .inl (fun _ => 0)))]) (hS : va_S A s.heap H locs) (hl : lv_has ls 4 [(3, .int 0), (2, .ref hm), (1, .ref (ad 0)), (0, .ref b)]) : W p l e room_1 s m #[Value.ref b] below meth c H locs 1140 19699 (lw_Z below #[Value.ref b] s) (F0 m 1289 ls []) := by
  obtain ⟨C, hK, hX, hbl, hA, hA2, hbA⟩ := id C0
  obtain ⟨hx, hb, hr, hml, hown, hT, hlk, -⟩ := id C
  refine lv_aload_n hx hb dL_law_1289 rfl (lv_at hl 2 rfl) ?_
  refine lv_aload_n hx hb dL_law_1290 rfl (lv_at hl 3 rfl) ?_
  refine lv_iload_n hx hb dL_law_1291 rfl (lv_at hl 0 rfl) ?_
  refine lv_iconst (v := 1) hx hb dL_law_1292 (by decide) ?_
  refine lv_iadd hx hb dL_law_1293 ?_
  refine gx_cst (v := 1) (by decide) ?_
  refine va_sld hx hb hX hbl hbA hS (gx_vin rfl) dL_law_1294 ?_
  refine gx_cst (v := (xs 1)) rfl ?_
  refine gx_ei (wc := ([((ad 0), .inr (4, [.ref (ad 1), .ref (ad 2), .ref (ad 3), .ref (ad 4), .ref (ad 5), .ref (ad 6), .ref (ad 7), .ref (ad 8), .ref (ad 9), .int 0])), ((ad 1), .inr (0, [.ref (ad 10), .ref (ad 11), .ref (ad 12), .ref (ad 13), .ref (ad 14), .ref (ad 15), .ref (ad 16), .ref (ad 17), .ref (ad 18), .int 0, .int 0, .int 0, .int 0, .int 1, .int 0, .int 0, .int 0])), ((ad 9), .inl (k 0, 5, .inl (fun _ => 0)))] : va_W)) (wr := [(hm, .inr (5, [.ref (am 1), .ref (am 2), .ref (am 3), .ref (am 4), .ref (am 5), .ref (am 6), .ref (am 7), .ref (am 8), .int 0, .ref (am 9), .int 0, .ref (am 10), .int 0, .ref (am 11), .ref (am 12), .int 0, .int 0, .int 1, .null, .null, .int 0, .int 0, .int 0, .long 0, .int 0, .ref (am 13), .int 0, .int 0, .int 0, .ref (am 14), .ref (am 15), .ref (am 16), .ref (am 17), .int 0, .ref (am 18), .ref (am 19), .ref (am 20)])), ((am 9), .inl (k 0, 8, .inl (fun _ => 0)))]) (isC := [0, 1, 2]) (isR := [3, 4]) hP hD hS hA rfl rfl (by decide) (by decide) (gx_runV (na := 1) (As := [.int (xs 1)]) (rest := []) (ci := 4) C hl.1 hK (gx_subP (wc := ([((ad 0), .inr (4, [.ref (ad 1), .ref (ad 2), .ref (ad 3), .ref (ad 4), .ref (ad 5), .ref (ad 6), .ref (ad 7), .ref (ad 8), .ref (ad 9), .int 0])), ((ad 1), .inr (0, [.ref (ad 10), .ref (ad 11), .ref (ad 12), .ref (ad 13), .ref (ad 14), .ref (ad 15), .ref (ad 16), .ref (ad 17), .ref (ad 18), .int 0, .int 0, .int 0, .int 0, .int 1, .int 0, .int 0, .int 0])), ((ad 9), .inl (k 0, 5, .inl (fun _ => 0)))] : va_W)) hP [0, 1, 2] rfl) ((hD.sub (ws' := ([((ad 0), .inr (4, [.ref (ad 1), .ref (ad 2), .ref (ad 3), .ref (ad 4), .ref (ad 5), .ref (ad 6), .ref (ad 7), .ref (ad 8), .ref (ad 9), .int 0])), ((ad 1), .inr (0, [.ref (ad 10), .ref (ad 11), .ref (ad 12), .ref (ad 13), .ref (ad 14), .ref (ad 15), .ref (ad 16), .ref (ad 17), .ref (ad 18), .int 0, .int 0, .int 0, .int 0, .int 1, .int 0, .int 0, .int 0])), ((ad 9), .inl (k 0, 5, .inl (fun _ => 0)))] : va_W)) [0, 1, 2] (by decide) rfl).weaken (fun _ _ _ _ => trivial)) (x_all l D k ad (xs 1) _) gV_R_law_145 (by decide +kernel) rfl rfl ⟨Nat.le_of_ble_eq_true rfl, Nat.le_of_ble_eq_true rfl⟩ rfl rfl rfl rfl (Nat.le_of_ble_eq_true rfl) dL_law_1295 ⟨Nat.le_of_ble_eq_true rfl, Nat.le_of_ble_eq_true rfl⟩) (fun r_3 u_1 H locs h_2 hP hD hS => ?_)
  have h_2 : r_3 = -2 := h_2
  have hP : va_P D gx_cl [(hm, .inr (5, [.ref (am 1), .ref (am 2), .ref (am 3), .ref (am 4), .ref (am 5), .ref (am 6), .ref (am 7), .ref (am 8), .int 0, .ref (am 9), .int 0, .ref (am 10), .int 0, .ref (am 11), .ref (am 12), .int 0, .int 0, .int 1, .null, .null, .int 0, .int 0, .int 0, .long 0, .int 0, .ref (am 13), .int 0, .int 0, .int 0, .ref (am 14), .ref (am 15), .ref (am 16), .ref (am 17), .int 0, .ref (am 18), .ref (am 19), .ref (am 20)])), ((am 9), .inl (k 0, 8, .inl (fun _ => 0)))] H := hP
  have hD : va_D A [(hm, .inr (5, [.ref (am 1), .ref (am 2), .ref (am 3), .ref (am 4), .ref (am 5), .ref (am 6), .ref (am 7), .ref (am 8), .int 0, .ref (am 9), .int 0, .ref (am 10), .int 0, .ref (am 11), .ref (am 12), .int 0, .int 0, .int 1, .null, .null, .int 0, .int 0, .int 0, .long 0, .int 0, .ref (am 13), .int 0, .int 0, .int 0, .ref (am 14), .ref (am 15), .ref (am 16), .ref (am 17), .int 0, .ref (am 18), .ref (am 19), .ref (am 20)])), ((am 9), .inl (k 0, 8, .inl (fun _ => 0)))] := hD
  refine lv_aload_n hx hb dL_law_1298 rfl (lv_at hl 1 rfl) ?_
  refine lv_aload_n hx hb dL_law_1299 rfl (lv_at hl 3 rfl) ?_
  refine lv_iload_n hx hb dL_law_1300 rfl (lv_at hl 0 rfl) ?_
  refine lv_iconst (v := 1) hx hb dL_law_1301 (by decide) ?_
  refine lv_iadd hx hb dL_law_1302 ?_
  refine gx_cst (v := 1) (by decide) ?_
  refine va_sld hx hb hX hbl hbA hS (gx_vin rfl) dL_law_1303 ?_
  refine gx_cst (v := (xs 1)) rfl ?_
  refine gx_ei (wc := ([(hm, .inr (5, [.ref (am 1), .ref (am 2), .ref (am 3), .ref (am 4), .ref (am 5), .ref (am 6), .ref (am 7), .ref (am 8), .int 0, .ref (am 9), .int 0, .ref (am 10), .int 0, .ref (am 11), .ref (am 12), .int 0, .int 0, .int 1, .null, .null, .int 0, .int 0, .int 0, .long 0, .int 0, .ref (am 13), .int 0, .int 0, .int 0, .ref (am 14), .ref (am 15), .ref (am 16), .ref (am 17), .int 0, .ref (am 18), .ref (am 19), .ref (am 20)])), ((am 9), .inl (k 0, 8, .inl (fun _ => 0)))] : va_W)) (wr := []) (isC := [0, 1]) (isR := []) hP hD hS hA rfl rfl (by decide) (by decide) (gx_runV (na := 1) (As := [.int (xs 1)]) (rest := [.int r_3]) (ci := 5) C hl.1 hK (gx_subP (wc := ([(hm, .inr (5, [.ref (am 1), .ref (am 2), .ref (am 3), .ref (am 4), .ref (am 5), .ref (am 6), .ref (am 7), .ref (am 8), .int 0, .ref (am 9), .int 0, .ref (am 10), .int 0, .ref (am 11), .ref (am 12), .int 0, .int 0, .int 1, .null, .null, .int 0, .int 0, .int 0, .long 0, .int 0, .ref (am 13), .int 0, .int 0, .int 0, .ref (am 14), .ref (am 15), .ref (am 16), .ref (am 17), .int 0, .ref (am 18), .ref (am 19), .ref (am 20)])), ((am 9), .inl (k 0, 8, .inl (fun _ => 0)))] : va_W)) hP [0, 1] rfl) ((hD.sub (ws' := ([(hm, .inr (5, [.ref (am 1), .ref (am 2), .ref (am 3), .ref (am 4), .ref (am 5), .ref (am 6), .ref (am 7), .ref (am 8), .int 0, .ref (am 9), .int 0, .ref (am 10), .int 0, .ref (am 11), .ref (am 12), .int 0, .int 0, .int 1, .null, .null, .int 0, .int 0, .int 0, .long 0, .int 0, .ref (am 13), .int 0, .int 0, .int 0, .ref (am 14), .ref (am 15), .ref (am 16), .ref (am 17), .int 0, .ref (am 18), .ref (am 19), .ref (am 20)])), ((am 9), .inl (k 0, 8, .inl (fun _ => 0)))] : va_W)) [0, 1] (by decide) rfl).weaken (fun _ _ _ _ => trivial)) (m_all_pub l D k hm am (xs 1) _) gV_R_law_148 (by decide +kernel) rfl rfl ⟨Nat.le_of_ble_eq_true rfl, Nat.le_of_ble_eq_true rfl⟩ rfl rfl rfl rfl (Nat.le_of_ble_eq_true rfl) dL_law_1304 ⟨Nat.le_of_ble_eq_true rfl, Nat.le_of_ble_eq_true rfl⟩) (fun r_7 u_5 H locs h_6 hP hD hS => ?_)
  have h_6 : r_7 = -2 := h_6
  have hP : va_P D gx_cl [] H := hP
  have hD : va_D A [] := hD
  refine lv_icmp_eq (tgt := 1806) hx hb dL_law_1307 (by decide) (fun c_9 => ?_) (fun c_9 => absurd (h_2.trans h_6.symm) c_9)
  exact lc_next C0 hS (Nat.le_of_ble_eq_true rfl) (Nat.le_of_ble_eq_true rfl) (lv_sub hl [0, 3] rfl)
set_option maxHeartbeats 4000000 in
set_option maxRecDepth 100000 in
theorem lc_way {p : Program} {l : Launch} {e : Env} {s : State} {m : MethodId} {below : List Frame} {meth : Method} {c : Code} {b : Nat} {xs : Nat → Int32} {D : va_G} {k : Nat → ClassId} {A : Nat → Prop} (C0 : lc_C p s m meth c b xs D k A) (ad : Nat → Nat) (hm : Nat) (am : Nat → Nat) (H : Heap) (locs : List Loc) (ls : Array Slot) (hP : va_P D gx_cl [((ad 0), .inr (4, [.ref (ad 1), .ref (ad 2), .ref (ad 3), .ref (ad 4), .ref (ad 5), .ref (ad 6), .ref (ad 7), .ref (ad 8), .ref (ad 9), .int 0])), ((ad 1), .inr (0, [.ref (ad 10), .ref (ad 11), .ref (ad 12), .ref (ad 13), .ref (ad 14), .ref (ad 15), .ref (ad 16), .ref (ad 17), .ref (ad 18), .int 0, .int 0, .int 0, .int 0, .int 1, .int 0, .int 0, .int 0])), ((ad 9), .inl (k 0, 5, .inl (fun _ => 0))), (hm, .inr (5, [.ref (am 1), .ref (am 2), .ref (am 3), .ref (am 4), .ref (am 5), .ref (am 6), .ref (am 7), .ref (am 8), .int 0, .ref (am 9), .int 0, .ref (am 10), .int 0, .ref (am 11), .ref (am 12), .int 0, .int 0, .int 1, .null, .null, .int 0, .int 0, .int 0, .long 0, .int 0, .ref (am 13), .int 0, .int 0, .int 0, .ref (am 14), .ref (am 15), .ref (am 16), .ref (am 17), .int 0, .ref (am 18), .ref (am 19), .ref (am 20)])), ((am 9), .inl (k 0, 8, .inl (fun _ => 0)))] H) (hD : va_D A [((ad 0), .inr (4, [.ref (ad 1), .ref (ad 2), .ref (ad 3), .ref (ad 4), .ref (ad 5), .ref (ad 6), .ref (ad 7), .ref (ad 8), .ref (ad 9), .int 0])), ((ad 1), .inr (0, [.ref (ad 10), .ref (ad 11), .ref (ad 12), .ref (ad 13), .ref (ad 14), .ref (ad 15), .ref (ad 16), .ref (ad 17), .ref (ad 18), .int 0, .int 0, .int 0, .int 0, .int 1, .int 0, .int 0, .int 0])), ((ad 9), .inl (k 0, 5, .inl (fun _ => 0))), (hm, .inr (5, [.ref (am 1), .ref (am 2), .ref (am 3), .ref (am 4), .ref (am 5), .ref (am 6), .ref (am 7), .ref (am 8), .int 0, .ref (am 9), .int 0, .ref (am 10), .int 0, .ref (am 11), .ref (am 12), .int 0, .int 0, .int 1, .null, .null, .int 0, .int 0, .int 0, .long 0, .int 0, .ref (am 13), .int 0, .int 0, .int 0, .ref (am 14), .ref (am 15), .ref (am 16), .ref (am 17), .int 0, .ref (am 18), .ref (am 19), .ref (am 20)])), ((am 9), .inl (k 0, 8, .inl (fun _ => 0)))]) (hS : va_S A s.heap H locs) (hl : lv_has ls 4 [(3, .int 0), (2, .ref hm), (1, .ref (ad 0)), (0, .ref b)]) : W p l e room_1 s m #[Value.ref b] below meth c H locs 1140 19699 (lw_Z below #[Value.ref b] s) (F0 m 1312 ls []) := by
  obtain ⟨C, hK, hX, hbl, hA, hA2, hbA⟩ := id C0
  obtain ⟨hx, hb, hr, hml, hown, hT, hlk, -⟩ := id C
  refine lv_aload_n hx hb dL_law_1312 rfl (lv_at hl 2 rfl) ?_
  refine lv_aload_n hx hb dL_law_1313 rfl (lv_at hl 3 rfl) ?_
  refine lv_iload_n hx hb dL_law_1314 rfl (lv_at hl 0 rfl) ?_
  refine lv_iconst (v := 1) hx hb dL_law_1315 (by decide) ?_
  refine lv_iadd hx hb dL_law_1316 ?_
  refine gx_cst (v := 1) (by decide) ?_
  refine va_sld hx hb hX hbl hbA hS (gx_vin rfl) dL_law_1317 ?_
  refine gx_cst (v := (xs 1)) rfl ?_
  refine lv_aload_n hx hb dL_law_1318 rfl (lv_at hl 3 rfl) ?_
  refine lv_iload_n hx hb dL_law_1319 rfl (lv_at hl 0 rfl) ?_
  refine lv_iconst (v := 2) hx hb dL_law_1320 (by decide) ?_
  refine lv_iadd hx hb dL_law_1321 ?_
  refine gx_cst (v := 2) (by decide) ?_
  refine va_sld hx hb hX hbl hbA hS (gx_vin rfl) dL_law_1322 ?_
  refine gx_cst (v := (xs 2)) rfl ?_
  refine gx_ei (wc := ([((ad 0), .inr (4, [.ref (ad 1), .ref (ad 2), .ref (ad 3), .ref (ad 4), .ref (ad 5), .ref (ad 6), .ref (ad 7), .ref (ad 8), .ref (ad 9), .int 0])), ((ad 1), .inr (0, [.ref (ad 10), .ref (ad 11), .ref (ad 12), .ref (ad 13), .ref (ad 14), .ref (ad 15), .ref (ad 16), .ref (ad 17), .ref (ad 18), .int 0, .int 0, .int 0, .int 0, .int 1, .int 0, .int 0, .int 0])), ((ad 9), .inl (k 0, 5, .inl (fun _ => 0)))] : va_W)) (wr := [(hm, .inr (5, [.ref (am 1), .ref (am 2), .ref (am 3), .ref (am 4), .ref (am 5), .ref (am 6), .ref (am 7), .ref (am 8), .int 0, .ref (am 9), .int 0, .ref (am 10), .int 0, .ref (am 11), .ref (am 12), .int 0, .int 0, .int 1, .null, .null, .int 0, .int 0, .int 0, .long 0, .int 0, .ref (am 13), .int 0, .int 0, .int 0, .ref (am 14), .ref (am 15), .ref (am 16), .ref (am 17), .int 0, .ref (am 18), .ref (am 19), .ref (am 20)])), ((am 9), .inl (k 0, 8, .inl (fun _ => 0)))]) (isC := [0, 1, 2]) (isR := [3, 4]) hP hD hS hA rfl rfl (by decide) (by decide) (gx_runV (na := 2) (As := [.int (xs 1), .int (xs 2)]) (rest := []) (ci := 4) C hl.1 hK (gx_subP (wc := ([((ad 0), .inr (4, [.ref (ad 1), .ref (ad 2), .ref (ad 3), .ref (ad 4), .ref (ad 5), .ref (ad 6), .ref (ad 7), .ref (ad 8), .ref (ad 9), .int 0])), ((ad 1), .inr (0, [.ref (ad 10), .ref (ad 11), .ref (ad 12), .ref (ad 13), .ref (ad 14), .ref (ad 15), .ref (ad 16), .ref (ad 17), .ref (ad 18), .int 0, .int 0, .int 0, .int 0, .int 1, .int 0, .int 0, .int 0])), ((ad 9), .inl (k 0, 5, .inl (fun _ => 0)))] : va_W)) hP [0, 1, 2] rfl) ((hD.sub (ws' := ([((ad 0), .inr (4, [.ref (ad 1), .ref (ad 2), .ref (ad 3), .ref (ad 4), .ref (ad 5), .ref (ad 6), .ref (ad 7), .ref (ad 8), .ref (ad 9), .int 0])), ((ad 1), .inr (0, [.ref (ad 10), .ref (ad 11), .ref (ad 12), .ref (ad 13), .ref (ad 14), .ref (ad 15), .ref (ad 16), .ref (ad 17), .ref (ad 18), .int 0, .int 0, .int 0, .int 0, .int 1, .int 0, .int 0, .int 0])), ((ad 9), .inl (k 0, 5, .inl (fun _ => 0)))] : va_W)) [0, 1, 2] (by decide) rfl).weaken (fun _ _ _ _ => trivial)) (x_way l D k ad (xs 1) (xs 2) _) gV_R_law_149 (by decide +kernel) rfl rfl ⟨Nat.le_of_ble_eq_true rfl, Nat.le_of_ble_eq_true rfl⟩ rfl rfl rfl rfl (Nat.le_of_ble_eq_true rfl) dL_law_1323 ⟨Nat.le_of_ble_eq_true rfl, Nat.le_of_ble_eq_true rfl⟩) (fun r_3 u_1 H locs h_2 hP hD hS => ?_)
  have h_2 : r_3 = -2 := h_2
  have hP : va_P D gx_cl [(hm, .inr (5, [.ref (am 1), .ref (am 2), .ref (am 3), .ref (am 4), .ref (am 5), .ref (am 6), .ref (am 7), .ref (am 8), .int 0, .ref (am 9), .int 0, .ref (am 10), .int 0, .ref (am 11), .ref (am 12), .int 0, .int 0, .int 1, .null, .null, .int 0, .int 0, .int 0, .long 0, .int 0, .ref (am 13), .int 0, .int 0, .int 0, .ref (am 14), .ref (am 15), .ref (am 16), .ref (am 17), .int 0, .ref (am 18), .ref (am 19), .ref (am 20)])), ((am 9), .inl (k 0, 8, .inl (fun _ => 0)))] H := hP
  have hD : va_D A [(hm, .inr (5, [.ref (am 1), .ref (am 2), .ref (am 3), .ref (am 4), .ref (am 5), .ref (am 6), .ref (am 7), .ref (am 8), .int 0, .ref (am 9), .int 0, .ref (am 10), .int 0, .ref (am 11), .ref (am 12), .int 0, .int 0, .int 1, .null, .null, .int 0, .int 0, .int 0, .long 0, .int 0, .ref (am 13), .int 0, .int 0, .int 0, .ref (am 14), .ref (am 15), .ref (am 16), .ref (am 17), .int 0, .ref (am 18), .ref (am 19), .ref (am 20)])), ((am 9), .inl (k 0, 8, .inl (fun _ => 0)))] := hD
  refine lv_aload_n hx hb dL_law_1326 rfl (lv_at hl 1 rfl) ?_
  refine lv_aload_n hx hb dL_law_1327 rfl (lv_at hl 3 rfl) ?_
  refine lv_iload_n hx hb dL_law_1328 rfl (lv_at hl 0 rfl) ?_
  refine lv_iconst (v := 1) hx hb dL_law_1329 (by decide) ?_
  refine lv_iadd hx hb dL_law_1330 ?_
  refine gx_cst (v := 1) (by decide) ?_
  refine va_sld hx hb hX hbl hbA hS (gx_vin rfl) dL_law_1331 ?_
  refine gx_cst (v := (xs 1)) rfl ?_
  refine lv_aload_n hx hb dL_law_1332 rfl (lv_at hl 3 rfl) ?_
  refine lv_iload_n hx hb dL_law_1333 rfl (lv_at hl 0 rfl) ?_
  refine lv_iconst (v := 2) hx hb dL_law_1334 (by decide) ?_
  refine lv_iadd hx hb dL_law_1335 ?_
  refine gx_cst (v := 2) (by decide) ?_
  refine va_sld hx hb hX hbl hbA hS (gx_vin rfl) dL_law_1336 ?_
  refine gx_cst (v := (xs 2)) rfl ?_
  refine gx_ei (wc := ([(hm, .inr (5, [.ref (am 1), .ref (am 2), .ref (am 3), .ref (am 4), .ref (am 5), .ref (am 6), .ref (am 7), .ref (am 8), .int 0, .ref (am 9), .int 0, .ref (am 10), .int 0, .ref (am 11), .ref (am 12), .int 0, .int 0, .int 1, .null, .null, .int 0, .int 0, .int 0, .long 0, .int 0, .ref (am 13), .int 0, .int 0, .int 0, .ref (am 14), .ref (am 15), .ref (am 16), .ref (am 17), .int 0, .ref (am 18), .ref (am 19), .ref (am 20)])), ((am 9), .inl (k 0, 8, .inl (fun _ => 0)))] : va_W)) (wr := []) (isC := [0, 1]) (isR := []) hP hD hS hA rfl rfl (by decide) (by decide) (gx_runV (na := 2) (As := [.int (xs 1), .int (xs 2)]) (rest := [.int r_3]) (ci := 5) C hl.1 hK (gx_subP (wc := ([(hm, .inr (5, [.ref (am 1), .ref (am 2), .ref (am 3), .ref (am 4), .ref (am 5), .ref (am 6), .ref (am 7), .ref (am 8), .int 0, .ref (am 9), .int 0, .ref (am 10), .int 0, .ref (am 11), .ref (am 12), .int 0, .int 0, .int 1, .null, .null, .int 0, .int 0, .int 0, .long 0, .int 0, .ref (am 13), .int 0, .int 0, .int 0, .ref (am 14), .ref (am 15), .ref (am 16), .ref (am 17), .int 0, .ref (am 18), .ref (am 19), .ref (am 20)])), ((am 9), .inl (k 0, 8, .inl (fun _ => 0)))] : va_W)) hP [0, 1] rfl) ((hD.sub (ws' := ([(hm, .inr (5, [.ref (am 1), .ref (am 2), .ref (am 3), .ref (am 4), .ref (am 5), .ref (am 6), .ref (am 7), .ref (am 8), .int 0, .ref (am 9), .int 0, .ref (am 10), .int 0, .ref (am 11), .ref (am 12), .int 0, .int 0, .int 1, .null, .null, .int 0, .int 0, .int 0, .long 0, .int 0, .ref (am 13), .int 0, .int 0, .int 0, .ref (am 14), .ref (am 15), .ref (am 16), .ref (am 17), .int 0, .ref (am 18), .ref (am 19), .ref (am 20)])), ((am 9), .inl (k 0, 8, .inl (fun _ => 0)))] : va_W)) [0, 1] (by decide) rfl).weaken (fun _ _ _ _ => trivial)) (m_way_pub l D k hm am (xs 1) (xs 2) _) gV_R_law_152 (by decide +kernel) rfl rfl ⟨Nat.le_of_ble_eq_true rfl, Nat.le_of_ble_eq_true rfl⟩ rfl rfl rfl rfl (Nat.le_of_ble_eq_true rfl) dL_law_1337 ⟨Nat.le_of_ble_eq_true rfl, Nat.le_of_ble_eq_true rfl⟩) (fun r_7 u_5 H locs h_6 hP hD hS => ?_)
  have h_6 : r_7 = -2 := h_6
  have hP : va_P D gx_cl [] H := hP
  have hD : va_D A [] := hD
  refine lv_icmp_eq (tgt := 1806) hx hb dL_law_1340 (by decide) (fun c_9 => ?_) (fun c_9 => absurd (h_2.trans h_6.symm) c_9)
  exact lc_next C0 hS (Nat.le_of_ble_eq_true rfl) (Nat.le_of_ble_eq_true rfl) (lv_sub hl [0, 3] rfl)
