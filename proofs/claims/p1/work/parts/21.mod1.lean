theorem wd_25 : Cond.selects RX7 yX7_refuse yX7_refuse ∈ gx_T := gx_in (List.mem_of_getElem? (i := 25) (by decide +kernel)) (by decide +kernel)
theorem wd_26 : Cond.selects RX7 yX7_noRow yX7_noRow ∈ gx_T := gx_in (List.mem_of_getElem? (i := 26) (by decide +kernel)) (by decide +kernel)
theorem wd_36 : Cond.selects RX7 yX7_newRoad yX7_newRoad ∈ gx_T := gx_in (List.mem_of_getElem? (i := 36) (by decide +kernel)) (by decide +kernel)
theorem wd_37 : Cond.selects RX7 yX7_newOne yX7_newOne ∈ gx_T := gx_in (List.mem_of_getElem? (i := 37) (by decide +kernel)) (by decide +kernel)
theorem wd_38 : Cond.selects RX7 yX7_isRoad yX7_isRoad ∈ gx_T := gx_in (List.mem_of_getElem? (i := 38) (by decide +kernel)) (by decide +kernel)
theorem wd_49 : Cond.selects RX7 yX7_isOne yX7_isOne ∈ gx_T := gx_in (List.mem_of_getElem? (i := 49) (by decide +kernel)) (by decide +kernel)
theorem wd_54 : Cond.selects RX7 yX7_noTold yX7_noTold ∈ gx_T := gx_in (List.mem_of_getElem? (i := 54) (by decide +kernel)) (by decide +kernel)
theorem wd_62 : Cond.selects RX7 yX7_areTwo yX7_areTwo ∈ gx_T := gx_in (List.mem_of_getElem? (i := 62) (by decide +kernel)) (by decide +kernel)
theorem wd_75 : Cond.initialized RX7 ∈ gx_T := gx_in (List.mem_of_getElem? (i := 75) (by decide +kernel)) (by decide +kernel)
theorem wd_930 : Cond.fieldLink RX7 7 "EachRoadOnceModel" "shelf" "[I" ∈ gx_T := gx_in (List.mem_of_getElem? (i := 930) (by decide +kernel)) (by decide +kernel)
theorem wd_931 : Cond.fieldLink RX7 13 "EachRoadOnceModel" "rowSort" "[I" ∈ gx_T := gx_in (List.mem_of_getElem? (i := 931) (by decide +kernel)) (by decide +kernel)
theorem wd_932 : Cond.fieldLink RX7 16 "EachRoadOnceModel" "rowSize" "[I" ∈ gx_T := gx_in (List.mem_of_getElem? (i := 932) (by decide +kernel)) (by decide +kernel)
theorem wd_933 : Cond.fieldLink RX7 21 "EachRoadOnceModel" "rows" "[[J" ∈ gx_T := gx_in (List.mem_of_getElem? (i := 933) (by decide +kernel)) (by decide +kernel)
theorem wd_935 : Cond.fieldLink RX7 28 "EachRoadOnceModel" "ruleKind" "[I" ∈ gx_T := gx_in (List.mem_of_getElem? (i := 935) (by decide +kernel)) (by decide +kernel)
theorem wd_936 : Cond.fieldLink RX7 31 "EachRoadOnceModel" "ruleBy" "[I" ∈ gx_T := gx_in (List.mem_of_getElem? (i := 936) (by decide +kernel)) (by decide +kernel)
theorem wd_937 : Cond.fieldLink RX7 34 "EachRoadOnceModel" "tape" "[I" ∈ gx_T := gx_in (List.mem_of_getElem? (i := 937) (by decide +kernel)) (by decide +kernel)
theorem wd_938 : Cond.fieldLink RX7 137 "EachRoadOnceModel" "tapeSize" "I" ∈ gx_T := gx_in (List.mem_of_getElem? (i := 938) (by decide +kernel)) (by decide +kernel)
theorem wd_939 : Cond.fieldLink RX7 37 "EachRoadOnceModel" "refused" "[I" ∈ gx_T := gx_in (List.mem_of_getElem? (i := 939) (by decide +kernel)) (by decide +kernel)
theorem wd_940 : Cond.fieldLink RX7 79 "EachRoadOnceModel" "roads" "I" ∈ gx_T := gx_in (List.mem_of_getElem? (i := 940) (by decide +kernel)) (by decide +kernel)
theorem wd_941 : Cond.fieldLink RX7 42 "EachRoadOnceModel" "road" "[[I" ∈ gx_T := gx_in (List.mem_of_getElem? (i := 941) (by decide +kernel)) (by decide +kernel)
theorem wd_942 : Cond.fieldLink RX7 86 "EachRoadOnceModel" "people" "I" ∈ gx_T := gx_in (List.mem_of_getElem? (i := 942) (by decide +kernel)) (by decide +kernel)
theorem wd_943 : Cond.fieldLink RX7 45 "EachRoadOnceModel" "one" "[[I" ∈ gx_T := gx_in (List.mem_of_getElem? (i := 943) (by decide +kernel)) (by decide +kernel)
theorem wd_944 : Cond.fieldLink RX7 48 "EachRoadOnceModel" "last" "[[I" ∈ gx_T := gx_in (List.mem_of_getElem? (i := 944) (by decide +kernel)) (by decide +kernel)
theorem wd_945 : Cond.fieldLink RX7 211 "EachRoadOnceModel" "year" "I" ∈ gx_T := gx_in (List.mem_of_getElem? (i := 945) (by decide +kernel)) (by decide +kernel)
theorem wd_946 : Cond.fieldLink RX7 134 "EachRoadOnceModel" "anew" "I" ∈ gx_T := gx_in (List.mem_of_getElem? (i := 946) (by decide +kernel)) (by decide +kernel)
theorem wd_947 : Cond.fieldLink RX7 51 "EachRoadOnceModel" "seed" "I" ∈ gx_T := gx_in (List.mem_of_getElem? (i := 947) (by decide +kernel)) (by decide +kernel)
theorem wd_948 : Cond.fieldLink RX7 351 "EachRoadOnceModel" "kept" "LEachRoadOnceModel;" ∈ gx_T := gx_in (List.mem_of_getElem? (i := 948) (by decide +kernel)) (by decide +kernel)
theorem wd_1046 : Cond.constantLong RX7 89 7 ∈ gx_T := gx_in (List.mem_of_getElem? (i := 1046) (by decide +kernel)) (by decide +kernel)
theorem wd_1047 : Cond.methodLink RX7 82 yX7_in ∈ gx_T := gx_in (List.mem_of_getElem? (i := 1047) (by decide +kernel)) (by decide +kernel)
theorem wd_1048 : Cond.static yX7_in ∈ gx_T := gx_in (List.mem_of_getElem? (i := 1048) (by decide +kernel)) (by decide +kernel)
theorem wd_1049 : Cond.code yX7_in cX7_in 6 (some .boolean) ∈ gx_T := gx_in (List.mem_of_getElem? (i := 1049) (by decide +kernel)) (by decide +kernel)
theorem wd_1050 : Cond.constantLong RX7 91 4 ∈ gx_T := gx_in (List.mem_of_getElem? (i := 1050) (by decide +kernel)) (by decide +kernel)
theorem wd_1051 : Cond.constantLong RX7 93 40 ∈ gx_T := gx_in (List.mem_of_getElem? (i := 1051) (by decide +kernel)) (by decide +kernel)
theorem wd_1052 : Cond.methodLink RX7 95 yX7_refuse ∈ gx_T := gx_in (List.mem_of_getElem? (i := 1052) (by decide +kernel)) (by decide +kernel)
theorem wd_1054 : Cond.instanceMethod yX7_refuse ∈ gx_T := gx_in (List.mem_of_getElem? (i := 1054) (by decide +kernel)) (by decide +kernel)
theorem wd_1055 : Cond.code yX7_refuse cX7_refuse 2 (some .int) ∈ gx_T := gx_in (List.mem_of_getElem? (i := 1055) (by decide +kernel)) (by decide +kernel)
theorem wd_1060 : Cond.methodLink RX7 99 yX7_noRow ∈ gx_T := gx_in (List.mem_of_getElem? (i := 1060) (by decide +kernel)) (by decide +kernel)
theorem wd_1062 : Cond.instanceMethod yX7_noRow ∈ gx_T := gx_in (List.mem_of_getElem? (i := 1062) (by decide +kernel)) (by decide +kernel)
theorem wd_1063 : Cond.code yX7_noRow cX7_noRow 2 (some .int) ∈ gx_T := gx_in (List.mem_of_getElem? (i := 1063) (by decide +kernel)) (by decide +kernel)
theorem wd_1083 : Cond.constantLong RX7 106 6 ∈ gx_T := gx_in (List.mem_of_getElem? (i := 1083) (by decide +kernel)) (by decide +kernel)
theorem wd_1084 : Cond.constantLong RX7 108 99 ∈ gx_T := gx_in (List.mem_of_getElem? (i := 1084) (by decide +kernel)) (by decide +kernel)
theorem wd_1135 : Cond.methodLink RX7 118 yX7_isPlace ∈ gx_T := gx_in (List.mem_of_getElem? (i := 1135) (by decide +kernel)) (by decide +kernel)
theorem wd_1136 : Cond.static yX7_isPlace ∈ gx_T := gx_in (List.mem_of_getElem? (i := 1136) (by decide +kernel)) (by decide +kernel)
theorem wd_1137 : Cond.code yX7_isPlace cX7_isPlace 2 (some .boolean) ∈ gx_T := gx_in (List.mem_of_getElem? (i := 1137) (by decide +kernel)) (by decide +kernel)
theorem wd_1138 : Cond.constantLong RX7 122 60 ∈ gx_T := gx_in (List.mem_of_getElem? (i := 1138) (by decide +kernel)) (by decide +kernel)
theorem wd_1139 : Cond.methodLink RX7 124 yX7_newRoad ∈ gx_T := gx_in (List.mem_of_getElem? (i := 1139) (by decide +kernel)) (by decide +kernel)
theorem wd_1141 : Cond.instanceMethod yX7_newRoad ∈ gx_T := gx_in (List.mem_of_getElem? (i := 1141) (by decide +kernel)) (by decide +kernel)
theorem wd_1142 : Cond.code yX7_newRoad cX7_newRoad 2 none ∈ gx_T := gx_in (List.mem_of_getElem? (i := 1142) (by decide +kernel)) (by decide +kernel)
theorem wd_1147 : Cond.methodLink RX7 127 yX7_newOne ∈ gx_T := gx_in (List.mem_of_getElem? (i := 1147) (by decide +kernel)) (by decide +kernel)
theorem wd_1149 : Cond.instanceMethod yX7_newOne ∈ gx_T := gx_in (List.mem_of_getElem? (i := 1149) (by decide +kernel)) (by decide +kernel)
theorem wd_1150 : Cond.code yX7_newOne cX7_newOne 3 none ∈ gx_T := gx_in (List.mem_of_getElem? (i := 1150) (by decide +kernel)) (by decide +kernel)
theorem wd_1155 : Cond.methodLink RX7 131 yX7_isRoad ∈ gx_T := gx_in (List.mem_of_getElem? (i := 1155) (by decide +kernel)) (by decide +kernel)
theorem wd_1157 : Cond.instanceMethod yX7_isRoad ∈ gx_T := gx_in (List.mem_of_getElem? (i := 1157) (by decide +kernel)) (by decide +kernel)
theorem wd_1158 : Cond.code yX7_isRoad cX7_isRoad 3 (some .boolean) ∈ gx_T := gx_in (List.mem_of_getElem? (i := 1158) (by decide +kernel)) (by decide +kernel)
theorem wd_1248 : Cond.methodLink RX7 235 yX7_isOne ∈ gx_T := gx_in (List.mem_of_getElem? (i := 1248) (by decide +kernel)) (by decide +kernel)
theorem wd_1250 : Cond.instanceMethod yX7_isOne ∈ gx_T := gx_in (List.mem_of_getElem? (i := 1250) (by decide +kernel)) (by decide +kernel)
theorem wd_1251 : Cond.code yX7_isOne cX7_isOne 2 (some .boolean) ∈ gx_T := gx_in (List.mem_of_getElem? (i := 1251) (by decide +kernel)) (by decide +kernel)
theorem wd_1317 : Cond.methodLink RX7 293 yX7_noTold ∈ gx_T := gx_in (List.mem_of_getElem? (i := 1317) (by decide +kernel)) (by decide +kernel)
theorem wd_1319 : Cond.instanceMethod yX7_noTold ∈ gx_T := gx_in (List.mem_of_getElem? (i := 1319) (by decide +kernel)) (by decide +kernel)
theorem wd_1320 : Cond.code yX7_noTold cX7_noTold 6 (some .int) ∈ gx_T := gx_in (List.mem_of_getElem? (i := 1320) (by decide +kernel)) (by decide +kernel)
theorem wd_1329 : Cond.constantLong RX7 300 2 ∈ gx_T := gx_in (List.mem_of_getElem? (i := 1329) (by decide +kernel)) (by decide +kernel)
theorem wd_1381 : Cond.methodLink RX7 329 yX7_areTwo ∈ gx_T := gx_in (List.mem_of_getElem? (i := 1381) (by decide +kernel)) (by decide +kernel)
theorem wd_1383 : Cond.instanceMethod yX7_areTwo ∈ gx_T := gx_in (List.mem_of_getElem? (i := 1383) (by decide +kernel)) (by decide +kernel)
theorem wd_1384 : Cond.code yX7_areTwo cX7_areTwo 4 (some .boolean) ∈ gx_T := gx_in (List.mem_of_getElem? (i := 1384) (by decide +kernel)) (by decide +kernel)
theorem wd_1455 : Cond.constantLong RX7 354 12 ∈ gx_T := gx_in (List.mem_of_getElem? (i := 1455) (by decide +kernel)) (by decide +kernel)
theorem wd_1456 : Cond.constantLong RX7 356 16 ∈ gx_T := gx_in (List.mem_of_getElem? (i := 1456) (by decide +kernel)) (by decide +kernel)
theorem gS_RX7_82 : GoodIn gx_T (va_wsS RX7 82 yX7_in (.code yX7_in cX7_in 6 (some .boolean) :: gx_T)) := gx_gS wd_1047 wd_1048 wd_75 wd_1049
theorem gV_RX7_95 : GoodIn gx_T (wsV RX7 95 RX7 yX7_refuse (.code yX7_refuse cX7_refuse 2 (some .int) :: gx_T)) := gx_gV wd_1052 wd_1054 wd_25 wd_75 wd_1055
theorem gV_RX7_235 : GoodIn gx_T (wsV RX7 235 RX7 yX7_isOne (.code yX7_isOne cX7_isOne 2 (some .boolean) :: gx_T)) := gx_gV wd_1248 wd_1250 wd_49 wd_75 wd_1251
theorem gV_RX7_99 : GoodIn gx_T (wsV RX7 99 RX7 yX7_noRow (.code yX7_noRow cX7_noRow 2 (some .int) :: gx_T)) := gx_gV wd_1060 wd_1062 wd_26 wd_75 wd_1063
theorem gS_RX7_118 : GoodIn gx_T (va_wsS RX7 118 yX7_isPlace (.code yX7_isPlace cX7_isPlace 2 (some .boolean) :: gx_T)) := gx_gS wd_1135 wd_1136 wd_75 wd_1137
theorem gV_RX7_124 : GoodIn gx_T (wsV RX7 124 RX7 yX7_newRoad (.code yX7_newRoad cX7_newRoad 2 none :: gx_T)) := gx_gV wd_1139 wd_1141 wd_36 wd_75 wd_1142
theorem gV_RX7_127 : GoodIn gx_T (wsV RX7 127 RX7 yX7_newOne (.code yX7_newOne cX7_newOne 3 none :: gx_T)) := gx_gV wd_1147 wd_1149 wd_37 wd_75 wd_1150
theorem gV_RX7_131 : GoodIn gx_T (wsV RX7 131 RX7 yX7_isRoad (.code yX7_isRoad cX7_isRoad 3 (some .boolean) :: gx_T)) := gx_gV wd_1155 wd_1157 wd_38 wd_75 wd_1158
theorem gV_RX7_293 : GoodIn gx_T (wsV RX7 293 RX7 yX7_noTold (.code yX7_noTold cX7_noTold 6 (some .int) :: gx_T)) := gx_gV wd_1317 wd_1319 wd_54 wd_75 wd_1320
theorem gV_RX7_329 : GoodIn gx_T (wsV RX7 329 RX7 yX7_areTwo (.code yX7_areTwo cX7_areTwo 4 (some .boolean) :: gx_T)) := gx_gV wd_1381 wd_1383 wd_62 wd_75 wd_1384
theorem dX7_in_0 : decode cX7_in 0 = .ok (.lload_n 0, 1) := by decide +kernel
theorem dX7_in_1 : decode cX7_in 1 = .ok (.lload_n 2, 1) := by decide +kernel
theorem dX7_in_2 : decode cX7_in 2 = .ok (.lcmp, 1) := by decide +kernel
theorem dX7_in_3 : decode cX7_in 3 = .ok (.ifCond .lt 14, 3) := by decide +kernel
theorem dX7_in_6 : decode cX7_in 6 = .ok (.lload_n 0, 1) := by decide +kernel
theorem dX7_in_7 : decode cX7_in 7 = .ok (.lload 4, 2) := by decide +kernel
theorem dX7_in_9 : decode cX7_in 9 = .ok (.lcmp, 1) := by decide +kernel
theorem dX7_in_10 : decode cX7_in 10 = .ok (.ifCond .gt 7, 3) := by decide +kernel
theorem dX7_in_13 : decode cX7_in 13 = .ok (.iconst 1, 1) := by decide +kernel
theorem dX7_in_14 : decode cX7_in 14 = .ok (.goto 4, 3) := by decide +kernel
theorem dX7_in_17 : decode cX7_in 17 = .ok (.iconst 0, 1) := by decide +kernel
theorem dX7_in_18 : decode cX7_in 18 = .ok (.ireturn, 1) := by decide +kernel
theorem dX7_isPlace_0 : decode cX7_isPlace 0 = .ok (.lload_n 0, 1) := by decide +kernel
theorem dX7_isPlace_1 : decode cX7_isPlace 1 = .ok (.lconst 0, 1) := by decide +kernel
theorem dX7_isPlace_2 : decode cX7_isPlace 2 = .ok (.ldc2_w 89, 3) := by decide +kernel
theorem dX7_isPlace_5 : decode cX7_isPlace 5 = .ok (.invokestatic 82, 3) := by decide +kernel
theorem dX7_isPlace_8 : decode cX7_isPlace 8 = .ok (.ireturn, 1) := by decide +kernel
theorem dX7_isRoad_0 : decode cX7_isRoad 0 = .ok (.lload_n 1, 1) := by decide +kernel
theorem dX7_isRoad_1 : decode cX7_isRoad 1 = .ok (.lconst 0, 1) := by decide +kernel
theorem dX7_isRoad_2 : decode cX7_isRoad 2 = .ok (.aload_n 0, 1) := by decide +kernel
theorem dX7_isRoad_3 : decode cX7_isRoad 3 = .ok (.getfield 79, 3) := by decide +kernel
theorem dX7_isRoad_6 : decode cX7_isRoad 6 = .ok (.iconst 1, 1) := by decide +kernel
theorem dX7_isRoad_7 : decode cX7_isRoad 7 = .ok (.isub, 1) := by decide +kernel
theorem dX7_isRoad_8 : decode cX7_isRoad 8 = .ok (.i2l, 1) := by decide +kernel
theorem dX7_isRoad_9 : decode cX7_isRoad 9 = .ok (.invokestatic 82, 3) := by decide +kernel
theorem dX7_isRoad_12 : decode cX7_isRoad 12 = .ok (.ireturn, 1) := by decide +kernel
theorem dX7_isOne_0 : decode cX7_isOne 0 = .ok (.iload_n 1, 1) := by decide +kernel
theorem dX7_isOne_1 : decode cX7_isOne 1 = .ok (.i2l, 1) := by decide +kernel
theorem dX7_isOne_2 : decode cX7_isOne 2 = .ok (.lconst 0, 1) := by decide +kernel
theorem dX7_isOne_3 : decode cX7_isOne 3 = .ok (.aload_n 0, 1) := by decide +kernel
theorem dX7_isOne_4 : decode cX7_isOne 4 = .ok (.getfield 86, 3) := by decide +kernel
theorem dX7_isOne_7 : decode cX7_isOne 7 = .ok (.iconst 1, 1) := by decide +kernel
theorem dX7_isOne_8 : decode cX7_isOne 8 = .ok (.isub, 1) := by decide +kernel
theorem dX7_isOne_9 : decode cX7_isOne 9 = .ok (.i2l, 1) := by decide +kernel
theorem dX7_isOne_10 : decode cX7_isOne 10 = .ok (.invokestatic 82, 3) := by decide +kernel
theorem dX7_isOne_13 : decode cX7_isOne 13 = .ok (.ireturn, 1) := by decide +kernel
theorem dX7_refuse_0 : decode cX7_refuse 0 = .ok (.aload_n 0, 1) := by decide +kernel
theorem dX7_refuse_1 : decode cX7_refuse 1 = .ok (.getfield 37, 3) := by decide +kernel
theorem dX7_refuse_4 : decode cX7_refuse 4 = .ok (.iload_n 1, 1) := by decide +kernel
theorem dX7_refuse_5 : decode cX7_refuse 5 = .ok (.ineg, 1) := by decide +kernel
theorem dX7_refuse_6 : decode cX7_refuse 6 = .ok (.dup2, 1) := by decide +kernel
theorem dX7_refuse_7 : decode cX7_refuse 7 = .ok (.iaload, 1) := by decide +kernel
theorem dX7_refuse_8 : decode cX7_refuse 8 = .ok (.iconst 1, 1) := by decide +kernel
theorem dX7_refuse_9 : decode cX7_refuse 9 = .ok (.iadd, 1) := by decide +kernel
theorem dX7_refuse_10 : decode cX7_refuse 10 = .ok (.iastore, 1) := by decide +kernel
theorem dX7_refuse_11 : decode cX7_refuse 11 = .ok (.iload_n 1, 1) := by decide +kernel
theorem dX7_refuse_12 : decode cX7_refuse 12 = .ok (.ireturn, 1) := by decide +kernel
theorem dX7_noRow_0 : decode cX7_noRow 0 = .ok (.iload_n 1, 1) := by decide +kernel
theorem dX7_noRow_1 : decode cX7_noRow 1 = .ok (.i2l, 1) := by decide +kernel
theorem dX7_noRow_2 : decode cX7_noRow 2 = .ok (.lconst 0, 1) := by decide +kernel
theorem dX7_noRow_3 : decode cX7_noRow 3 = .ok (.ldc2_w 89, 3) := by decide +kernel
theorem dX7_noRow_6 : decode cX7_noRow 6 = .ok (.invokestatic 82, 3) := by decide +kernel
theorem dX7_noRow_9 : decode cX7_noRow 9 = .ok (.ifCond .ne 10, 3) := by decide +kernel
theorem dX7_noRow_12 : decode cX7_noRow 12 = .ok (.aload_n 0, 1) := by decide +kernel
theorem dX7_noRow_13 : decode cX7_noRow 13 = .ok (.bipush (-2), 2) := by decide +kernel
theorem dX7_noRow_15 : decode cX7_noRow 15 = .ok (.invokevirtual 95, 3) := by decide +kernel
theorem dX7_noRow_18 : decode cX7_noRow 18 = .ok (.ireturn, 1) := by decide +kernel
theorem dX7_noRow_19 : decode cX7_noRow 19 = .ok (.aload_n 0, 1) := by decide +kernel
theorem dX7_noRow_20 : decode cX7_noRow 20 = .ok (.getfield 7, 3) := by decide +kernel
theorem dX7_noRow_23 : decode cX7_noRow 23 = .ok (.iload_n 1, 1) := by decide +kernel
theorem dX7_noRow_24 : decode cX7_noRow 24 = .ok (.iaload, 1) := by decide +kernel
theorem dX7_noRow_25 : decode cX7_noRow 25 = .ok (.iconst 2, 1) := by decide +kernel
theorem dX7_noRow_26 : decode cX7_noRow 26 = .ok (.if_icmp .ne 10, 3) := by decide +kernel
theorem dX7_noRow_36 : decode cX7_noRow 36 = .ok (.aload_n 0, 1) := by decide +kernel
theorem dX7_noRow_37 : decode cX7_noRow 37 = .ok (.getfield 7, 3) := by decide +kernel
theorem dX7_noRow_40 : decode cX7_noRow 40 = .ok (.iload_n 1, 1) := by decide +kernel
theorem dX7_noRow_41 : decode cX7_noRow 41 = .ok (.iaload, 1) := by decide +kernel
theorem dX7_noRow_42 : decode cX7_noRow 42 = .ok (.ifCond .ne 12, 3) := by decide +kernel
theorem dX7_noRow_45 : decode cX7_noRow 45 = .ok (.aload_n 0, 1) := by decide +kernel
theorem dX7_noRow_46 : decode cX7_noRow 46 = .ok (.bipush (-4), 2) := by decide +kernel
theorem dX7_noRow_48 : decode cX7_noRow 48 = .ok (.invokevirtual 95, 3) := by decide +kernel
theorem dX7_noRow_51 : decode cX7_noRow 51 = .ok (.goto 4, 3) := by decide +kernel
theorem dX7_noRow_55 : decode cX7_noRow 55 = .ok (.ireturn, 1) := by decide +kernel
theorem dX7_noRule_0 : decode cX7_noRule 0 = .ok (.iload_n 1, 1) := by decide +kernel
theorem dX7_noRule_1 : decode cX7_noRule 1 = .ok (.i2l, 1) := by decide +kernel
theorem dX7_noRule_2 : decode cX7_noRule 2 = .ok (.lconst 0, 1) := by decide +kernel
theorem dX7_noRule_3 : decode cX7_noRule 3 = .ok (.ldc2_w 89, 3) := by decide +kernel
theorem dX7_noRule_6 : decode cX7_noRule 6 = .ok (.invokestatic 82, 3) := by decide +kernel
theorem dX7_noRule_9 : decode cX7_noRule 9 = .ok (.ifCond .ne 10, 3) := by decide +kernel
theorem dX7_noRule_12 : decode cX7_noRule 12 = .ok (.aload_n 0, 1) := by decide +kernel
theorem dX7_noRule_13 : decode cX7_noRule 13 = .ok (.bipush (-2), 2) := by decide +kernel
theorem dX7_noRule_15 : decode cX7_noRule 15 = .ok (.invokevirtual 95, 3) := by decide +kernel
theorem dX7_noRule_18 : decode cX7_noRule 18 = .ok (.ireturn, 1) := by decide +kernel
theorem dX7_noRule_19 : decode cX7_noRule 19 = .ok (.aload_n 0, 1) := by decide +kernel
theorem dX7_noRule_20 : decode cX7_noRule 20 = .ok (.getfield 7, 3) := by decide +kernel
theorem dX7_noRule_23 : decode cX7_noRule 23 = .ok (.iload_n 1, 1) := by decide +kernel
theorem dX7_noRule_24 : decode cX7_noRule 24 = .ok (.iaload, 1) := by decide +kernel
theorem dX7_noRule_25 : decode cX7_noRule 25 = .ok (.iconst 1, 1) := by decide +kernel
theorem dX7_noRule_26 : decode cX7_noRule 26 = .ok (.if_icmp .ne 10, 3) := by decide +kernel
theorem dX7_noRule_36 : decode cX7_noRule 36 = .ok (.aload_n 0, 1) := by decide +kernel
theorem dX7_noRule_37 : decode cX7_noRule 37 = .ok (.getfield 7, 3) := by decide +kernel
theorem dX7_noRule_40 : decode cX7_noRule 40 = .ok (.iload_n 1, 1) := by decide +kernel
theorem dX7_noRule_41 : decode cX7_noRule 41 = .ok (.iaload, 1) := by decide +kernel
theorem dX7_noRule_42 : decode cX7_noRule 42 = .ok (.ifCond .ne 12, 3) := by decide +kernel
theorem dX7_noRule_45 : decode cX7_noRule 45 = .ok (.aload_n 0, 1) := by decide +kernel
theorem dX7_noRule_46 : decode cX7_noRule 46 = .ok (.bipush (-4), 2) := by decide +kernel
theorem dX7_noRule_48 : decode cX7_noRule 48 = .ok (.invokevirtual 95, 3) := by decide +kernel
theorem dX7_noRule_51 : decode cX7_noRule 51 = .ok (.goto 4, 3) := by decide +kernel
theorem dX7_noRule_55 : decode cX7_noRule 55 = .ok (.ireturn, 1) := by decide +kernel
theorem dX7_noTold_0 : decode cX7_noTold 0 = .ok (.aload_n 0, 1) := by decide +kernel
theorem dX7_noTold_1 : decode cX7_noTold 1 = .ok (.iload_n 1, 1) := by decide +kernel
theorem dX7_noTold_2 : decode cX7_noTold 2 = .ok (.invokevirtual 235, 3) := by decide +kernel
theorem dX7_noTold_5 : decode cX7_noTold 5 = .ok (.ifCond .eq 27, 3) := by decide +kernel
theorem dX7_noTold_32 : decode cX7_noTold 32 = .ok (.aload_n 0, 1) := by decide +kernel
theorem dX7_noTold_33 : decode cX7_noTold 33 = .ok (.bipush (-2), 2) := by decide +kernel
theorem dX7_noTold_35 : decode cX7_noTold 35 = .ok (.invokevirtual 95, 3) := by decide +kernel
theorem dX7_noTold_38 : decode cX7_noTold 38 = .ok (.ireturn, 1) := by decide +kernel
theorem dX7_row_0 : decode cX7_row 0 = .ok (.iload_n 1, 1) := by decide +kernel
theorem dX7_row_1 : decode cX7_row 1 = .ok (.i2l, 1) := by decide +kernel
theorem dX7_row_2 : decode cX7_row 2 = .ok (.lconst 0, 1) := by decide +kernel
theorem dX7_row_3 : decode cX7_row 3 = .ok (.ldc2_w 89, 3) := by decide +kernel
theorem dX7_row_6 : decode cX7_row 6 = .ok (.invokestatic 82, 3) := by decide +kernel
theorem dX7_row_9 : decode cX7_row 9 = .ok (.ifCond .eq 27, 3) := by decide +kernel
theorem dX7_row_12 : decode cX7_row 12 = .ok (.iload_n 2, 1) := by decide +kernel
theorem dX7_row_13 : decode cX7_row 13 = .ok (.i2l, 1) := by decide +kernel
theorem dX7_row_14 : decode cX7_row 14 = .ok (.lconst 0, 1) := by decide +kernel
theorem dX7_row_15 : decode cX7_row 15 = .ok (.ldc2_w 91, 3) := by decide +kernel
theorem dX7_row_18 : decode cX7_row 18 = .ok (.invokestatic 82, 3) := by decide +kernel
theorem dX7_row_21 : decode cX7_row 21 = .ok (.ifCond .eq 15, 3) := by decide +kernel
theorem dX7_row_24 : decode cX7_row 24 = .ok (.iload_n 3, 1) := by decide +kernel
theorem dX7_row_25 : decode cX7_row 25 = .ok (.i2l, 1) := by decide +kernel
theorem dX7_row_26 : decode cX7_row 26 = .ok (.lconst 0, 1) := by decide +kernel
theorem dX7_row_27 : decode cX7_row 27 = .ok (.ldc2_w 93, 3) := by decide +kernel
theorem dX7_row_30 : decode cX7_row 30 = .ok (.invokestatic 82, 3) := by decide +kernel
theorem dX7_row_33 : decode cX7_row 33 = .ok (.ifCond .ne 10, 3) := by decide +kernel
theorem dX7_row_36 : decode cX7_row 36 = .ok (.aload_n 0, 1) := by decide +kernel
theorem dX7_row_37 : decode cX7_row 37 = .ok (.bipush (-2), 2) := by decide +kernel
theorem dX7_row_39 : decode cX7_row 39 = .ok (.invokevirtual 95, 3) := by decide +kernel
theorem dX7_row_42 : decode cX7_row 42 = .ok (.ireturn, 1) := by decide +kernel
theorem dX7_row_43 : decode cX7_row 43 = .ok (.aload_n 0, 1) := by decide +kernel
theorem dX7_row_44 : decode cX7_row 44 = .ok (.getfield 7, 3) := by decide +kernel
theorem dX7_row_47 : decode cX7_row 47 = .ok (.iload_n 1, 1) := by decide +kernel
theorem dX7_row_48 : decode cX7_row 48 = .ok (.iconst 1, 1) := by decide +kernel
theorem dX7_row_49 : decode cX7_row 49 = .ok (.iastore, 1) := by decide +kernel
theorem dX7_row_50 : decode cX7_row 50 = .ok (.aload_n 0, 1) := by decide +kernel
theorem dX7_row_51 : decode cX7_row 51 = .ok (.getfield 13, 3) := by decide +kernel
theorem dX7_row_54 : decode cX7_row 54 = .ok (.iload_n 1, 1) := by decide +kernel
theorem dX7_row_55 : decode cX7_row 55 = .ok (.iload_n 2, 1) := by decide +kernel
theorem dX7_row_56 : decode cX7_row 56 = .ok (.iastore, 1) := by decide +kernel
theorem dX7_row_57 : decode cX7_row 57 = .ok (.aload_n 0, 1) := by decide +kernel
theorem dX7_row_58 : decode cX7_row 58 = .ok (.getfield 16, 3) := by decide +kernel
theorem dX7_row_61 : decode cX7_row 61 = .ok (.iload_n 1, 1) := by decide +kernel
theorem dX7_row_62 : decode cX7_row 62 = .ok (.iload_n 3, 1) := by decide +kernel
theorem dX7_row_63 : decode cX7_row 63 = .ok (.iastore, 1) := by decide +kernel
theorem dX7_row_64 : decode cX7_row 64 = .ok (.iconst 0, 1) := by decide +kernel
theorem dX7_row_65 : decode cX7_row 65 = .ok (.istore 4, 2) := by decide +kernel
theorem dX7_row_67 : decode cX7_row 67 = .ok (.iload 4, 2) := by decide +kernel
theorem dX7_row_69 : decode cX7_row 69 = .ok (.bipush 40, 2) := by decide +kernel
theorem dX7_row_71 : decode cX7_row 71 = .ok (.if_icmp .ge 19, 3) := by decide +kernel
theorem dX7_row_74 : decode cX7_row 74 = .ok (.aload_n 0, 1) := by decide +kernel
theorem dX7_row_75 : decode cX7_row 75 = .ok (.getfield 21, 3) := by decide +kernel
theorem dX7_row_78 : decode cX7_row 78 = .ok (.iload_n 1, 1) := by decide +kernel
theorem dX7_row_79 : decode cX7_row 79 = .ok (.aaload, 1) := by decide +kernel
theorem dX7_row_80 : decode cX7_row 80 = .ok (.iload 4, 2) := by decide +kernel
theorem dX7_row_82 : decode cX7_row 82 = .ok (.lconst 0, 1) := by decide +kernel
theorem dX7_row_83 : decode cX7_row 83 = .ok (.lastore, 1) := by decide +kernel
theorem dX7_row_84 : decode cX7_row 84 = .ok (.iinc 4 1, 3) := by decide +kernel
theorem dX7_row_87 : decode cX7_row 87 = .ok (.goto (-20), 3) := by decide +kernel
theorem dX7_row_90 : decode cX7_row 90 = .ok (.iconst 1, 1) := by decide +kernel
theorem dX7_row_91 : decode cX7_row 91 = .ok (.ireturn, 1) := by decide +kernel
theorem dX7_set_0 : decode cX7_set 0 = .ok (.aload_n 0, 1) := by decide +kernel
theorem dX7_set_1 : decode cX7_set 1 = .ok (.iload_n 1, 1) := by decide +kernel
theorem dX7_set_2 : decode cX7_set 2 = .ok (.invokevirtual 99, 3) := by decide +kernel
theorem dX7_set_5 : decode cX7_set 5 = .ok (.istore 5, 2) := by decide +kernel
theorem dX7_set_7 : decode cX7_set 7 = .ok (.iload 5, 2) := by decide +kernel
theorem dX7_set_9 : decode cX7_set 9 = .ok (.ifCond .eq 6, 3) := by decide +kernel
theorem dX7_set_12 : decode cX7_set 12 = .ok (.iload 5, 2) := by decide +kernel
theorem dX7_set_14 : decode cX7_set 14 = .ok (.ireturn, 1) := by decide +kernel
theorem dX7_copy_0 : decode cX7_copy 0 = .ok (.iload_n 1, 1) := by decide +kernel
theorem dX7_copy_1 : decode cX7_copy 1 = .ok (.i2l, 1) := by decide +kernel
theorem dX7_copy_2 : decode cX7_copy 2 = .ok (.lconst 0, 1) := by decide +kernel
theorem dX7_copy_3 : decode cX7_copy 3 = .ok (.ldc2_w 89, 3) := by decide +kernel
theorem dX7_copy_6 : decode cX7_copy 6 = .ok (.invokestatic 82, 3) := by decide +kernel
theorem dX7_copy_9 : decode cX7_copy 9 = .ok (.ifCond .eq 15, 3) := by decide +kernel
theorem dX7_copy_12 : decode cX7_copy 12 = .ok (.iload_n 2, 1) := by decide +kernel
theorem dX7_copy_13 : decode cX7_copy 13 = .ok (.i2l, 1) := by decide +kernel
theorem dX7_copy_14 : decode cX7_copy 14 = .ok (.lconst 0, 1) := by decide +kernel
theorem dX7_copy_15 : decode cX7_copy 15 = .ok (.ldc2_w 89, 3) := by decide +kernel
theorem dX7_copy_18 : decode cX7_copy 18 = .ok (.invokestatic 82, 3) := by decide +kernel
theorem dX7_copy_21 : decode cX7_copy 21 = .ok (.ifCond .ne 10, 3) := by decide +kernel
theorem dX7_copy_24 : decode cX7_copy 24 = .ok (.aload_n 0, 1) := by decide +kernel
theorem dX7_copy_25 : decode cX7_copy 25 = .ok (.bipush (-2), 2) := by decide +kernel
theorem dX7_copy_27 : decode cX7_copy 27 = .ok (.invokevirtual 95, 3) := by decide +kernel
theorem dX7_copy_30 : decode cX7_copy 30 = .ok (.ireturn, 1) := by decide +kernel
theorem dX7_copy_31 : decode cX7_copy 31 = .ok (.aload_n 0, 1) := by decide +kernel
theorem dX7_copy_32 : decode cX7_copy 32 = .ok (.getfield 7, 3) := by decide +kernel
theorem dX7_copy_35 : decode cX7_copy 35 = .ok (.iload_n 1, 1) := by decide +kernel
theorem dX7_copy_36 : decode cX7_copy 36 = .ok (.iaload, 1) := by decide +kernel
theorem dX7_copy_37 : decode cX7_copy 37 = .ok (.iconst 2, 1) := by decide +kernel
theorem dX7_copy_38 : decode cX7_copy 38 = .ok (.if_icmp .eq 48, 3) := by decide +kernel
theorem dX7_copy_41 : decode cX7_copy 41 = .ok (.aload_n 0, 1) := by decide +kernel
theorem dX7_copy_42 : decode cX7_copy 42 = .ok (.getfield 7, 3) := by decide +kernel
theorem dX7_copy_45 : decode cX7_copy 45 = .ok (.iload_n 2, 1) := by decide +kernel
theorem dX7_copy_46 : decode cX7_copy 46 = .ok (.iaload, 1) := by decide +kernel
theorem dX7_copy_47 : decode cX7_copy 47 = .ok (.iconst 2, 1) := by decide +kernel
theorem dX7_copy_48 : decode cX7_copy 48 = .ok (.if_icmp .eq 38, 3) := by decide +kernel
theorem dX7_copy_51 : decode cX7_copy 51 = .ok (.aload_n 0, 1) := by decide +kernel
theorem dX7_copy_52 : decode cX7_copy 52 = .ok (.getfield 7, 3) := by decide +kernel
theorem dX7_copy_55 : decode cX7_copy 55 = .ok (.iload_n 1, 1) := by decide +kernel
theorem dX7_copy_56 : decode cX7_copy 56 = .ok (.iaload, 1) := by decide +kernel
theorem dX7_copy_57 : decode cX7_copy 57 = .ok (.iconst 1, 1) := by decide +kernel
theorem dX7_copy_58 : decode cX7_copy 58 = .ok (.if_icmp .ne 35, 3) := by decide +kernel
theorem dX7_copy_93 : decode cX7_copy 93 = .ok (.aload_n 0, 1) := by decide +kernel
theorem dX7_copy_94 : decode cX7_copy 94 = .ok (.getfield 7, 3) := by decide +kernel
theorem dX7_copy_97 : decode cX7_copy 97 = .ok (.iload_n 1, 1) := by decide +kernel
theorem dX7_copy_98 : decode cX7_copy 98 = .ok (.iaload, 1) := by decide +kernel
theorem dX7_copy_99 : decode cX7_copy 99 = .ok (.ifCond .eq 12, 3) := by decide +kernel
theorem dX7_copy_111 : decode cX7_copy 111 = .ok (.aload_n 0, 1) := by decide +kernel
theorem dX7_copy_112 : decode cX7_copy 112 = .ok (.bipush (-4), 2) := by decide +kernel
theorem dX7_copy_114 : decode cX7_copy 114 = .ok (.invokevirtual 95, 3) := by decide +kernel
theorem dX7_copy_117 : decode cX7_copy 117 = .ok (.ireturn, 1) := by decide +kernel
theorem dX7_element_0 : decode cX7_element 0 = .ok (.iload_n 1, 1) := by decide +kernel
theorem dX7_element_1 : decode cX7_element 1 = .ok (.i2l, 1) := by decide +kernel
theorem dX7_element_2 : decode cX7_element 2 = .ok (.lconst 0, 1) := by decide +kernel
theorem dX7_element_3 : decode cX7_element 3 = .ok (.ldc2_w 89, 3) := by decide +kernel
theorem dX7_element_6 : decode cX7_element 6 = .ok (.invokestatic 82, 3) := by decide +kernel
theorem dX7_element_9 : decode cX7_element 9 = .ok (.ifCond .eq 42, 3) := by decide +kernel
theorem dX7_element_12 : decode cX7_element 12 = .ok (.aload_n 0, 1) := by decide +kernel
theorem dX7_element_13 : decode cX7_element 13 = .ok (.getfield 7, 3) := by decide +kernel
theorem dX7_element_16 : decode cX7_element 16 = .ok (.iload_n 1, 1) := by decide +kernel
theorem dX7_element_17 : decode cX7_element 17 = .ok (.iaload, 1) := by decide +kernel
theorem dX7_element_18 : decode cX7_element 18 = .ok (.iconst 1, 1) := by decide +kernel
theorem dX7_element_19 : decode cX7_element 19 = .ok (.if_icmp .ne 32, 3) := by decide +kernel
theorem dX7_element_51 : decode cX7_element 51 = .ok (.lconst 0, 1) := by decide +kernel
theorem dX7_element_52 : decode cX7_element 52 = .ok (.lreturn, 1) := by decide +kernel
theorem dX7_holds_0 : decode cX7_holds 0 = .ok (.iload_n 1, 1) := by decide +kernel
theorem dX7_holds_1 : decode cX7_holds 1 = .ok (.i2l, 1) := by decide +kernel
theorem dX7_holds_2 : decode cX7_holds 2 = .ok (.lconst 0, 1) := by decide +kernel
theorem dX7_holds_3 : decode cX7_holds 3 = .ok (.ldc2_w 89, 3) := by decide +kernel
theorem dX7_holds_6 : decode cX7_holds 6 = .ok (.invokestatic 82, 3) := by decide +kernel
theorem dX7_holds_9 : decode cX7_holds 9 = .ok (.ifCond .eq 12, 3) := by decide +kernel
theorem dX7_holds_12 : decode cX7_holds 12 = .ok (.aload_n 0, 1) := by decide +kernel
theorem dX7_holds_13 : decode cX7_holds 13 = .ok (.getfield 7, 3) := by decide +kernel
theorem dX7_holds_16 : decode cX7_holds 16 = .ok (.iload_n 1, 1) := by decide +kernel
theorem dX7_holds_17 : decode cX7_holds 17 = .ok (.iaload, 1) := by decide +kernel
theorem dX7_holds_18 : decode cX7_holds 18 = .ok (.ifCond .ne 5, 3) := by decide +kernel
theorem dX7_holds_21 : decode cX7_holds 21 = .ok (.iconst (-1), 1) := by decide +kernel
theorem dX7_holds_22 : decode cX7_holds 22 = .ok (.ireturn, 1) := by decide +kernel
theorem dX7_rule_0 : decode cX7_rule 0 = .ok (.iload_n 1, 1) := by decide +kernel
theorem dX7_rule_1 : decode cX7_rule 1 = .ok (.i2l, 1) := by decide +kernel
theorem dX7_rule_2 : decode cX7_rule 2 = .ok (.lconst 0, 1) := by decide +kernel
theorem dX7_rule_3 : decode cX7_rule 3 = .ok (.ldc2_w 89, 3) := by decide +kernel
theorem dX7_rule_6 : decode cX7_rule 6 = .ok (.invokestatic 82, 3) := by decide +kernel
theorem dX7_rule_9 : decode cX7_rule 9 = .ok (.ifCond .eq 27, 3) := by decide +kernel
theorem dX7_rule_12 : decode cX7_rule 12 = .ok (.iload_n 2, 1) := by decide +kernel
theorem dX7_rule_13 : decode cX7_rule 13 = .ok (.i2l, 1) := by decide +kernel
theorem dX7_rule_14 : decode cX7_rule 14 = .ok (.lconst 1, 1) := by decide +kernel
theorem dX7_rule_15 : decode cX7_rule 15 = .ok (.ldc2_w 106, 3) := by decide +kernel
theorem dX7_rule_18 : decode cX7_rule 18 = .ok (.invokestatic 82, 3) := by decide +kernel
theorem dX7_rule_21 : decode cX7_rule 21 = .ok (.ifCond .eq 15, 3) := by decide +kernel
theorem dX7_rule_24 : decode cX7_rule 24 = .ok (.iload_n 3, 1) := by decide +kernel
theorem dX7_rule_25 : decode cX7_rule 25 = .ok (.i2l, 1) := by decide +kernel
theorem dX7_rule_26 : decode cX7_rule 26 = .ok (.lconst 0, 1) := by decide +kernel
theorem dX7_rule_27 : decode cX7_rule 27 = .ok (.ldc2_w 108, 3) := by decide +kernel
theorem dX7_rule_30 : decode cX7_rule 30 = .ok (.invokestatic 82, 3) := by decide +kernel
theorem dX7_rule_33 : decode cX7_rule 33 = .ok (.ifCond .ne 10, 3) := by decide +kernel
theorem dX7_rule_36 : decode cX7_rule 36 = .ok (.aload_n 0, 1) := by decide +kernel
theorem dX7_rule_37 : decode cX7_rule 37 = .ok (.bipush (-2), 2) := by decide +kernel
theorem dX7_rule_39 : decode cX7_rule 39 = .ok (.invokevirtual 95, 3) := by decide +kernel
theorem dX7_rule_42 : decode cX7_rule 42 = .ok (.ireturn, 1) := by decide +kernel
theorem dX7_rule_43 : decode cX7_rule 43 = .ok (.aload_n 0, 1) := by decide +kernel
theorem dX7_rule_44 : decode cX7_rule 44 = .ok (.getfield 7, 3) := by decide +kernel
theorem dX7_rule_47 : decode cX7_rule 47 = .ok (.iload_n 1, 1) := by decide +kernel
theorem dX7_rule_48 : decode cX7_rule 48 = .ok (.iconst 2, 1) := by decide +kernel
theorem dX7_rule_49 : decode cX7_rule 49 = .ok (.iastore, 1) := by decide +kernel
theorem dX7_rule_50 : decode cX7_rule 50 = .ok (.aload_n 0, 1) := by decide +kernel
theorem dX7_rule_51 : decode cX7_rule 51 = .ok (.getfield 28, 3) := by decide +kernel
theorem dX7_rule_54 : decode cX7_rule 54 = .ok (.iload_n 1, 1) := by decide +kernel
theorem dX7_rule_55 : decode cX7_rule 55 = .ok (.iload_n 2, 1) := by decide +kernel
theorem dX7_rule_56 : decode cX7_rule 56 = .ok (.iastore, 1) := by decide +kernel
theorem dX7_rule_57 : decode cX7_rule 57 = .ok (.aload_n 0, 1) := by decide +kernel
theorem dX7_rule_58 : decode cX7_rule 58 = .ok (.getfield 31, 3) := by decide +kernel
theorem dX7_rule_61 : decode cX7_rule 61 = .ok (.iload_n 1, 1) := by decide +kernel
theorem dX7_rule_62 : decode cX7_rule 62 = .ok (.iload_n 3, 1) := by decide +kernel
theorem dX7_rule_63 : decode cX7_rule 63 = .ok (.iastore, 1) := by decide +kernel
theorem dX7_rule_64 : decode cX7_rule 64 = .ok (.iconst 1, 1) := by decide +kernel
theorem dX7_rule_65 : decode cX7_rule 65 = .ok (.ireturn, 1) := by decide +kernel
theorem dX7_says_0 : decode cX7_says 0 = .ok (.iload_n 1, 1) := by decide +kernel
theorem dX7_says_1 : decode cX7_says 1 = .ok (.i2l, 1) := by decide +kernel
theorem dX7_says_2 : decode cX7_says 2 = .ok (.lconst 0, 1) := by decide +kernel
theorem dX7_says_3 : decode cX7_says 3 = .ok (.ldc2_w 89, 3) := by decide +kernel
theorem dX7_says_6 : decode cX7_says 6 = .ok (.invokestatic 82, 3) := by decide +kernel
theorem dX7_says_9 : decode cX7_says 9 = .ok (.ifCond .eq 15, 3) := by decide +kernel
theorem dX7_says_12 : decode cX7_says 12 = .ok (.iload_n 2, 1) := by decide +kernel
theorem dX7_says_13 : decode cX7_says 13 = .ok (.i2l, 1) := by decide +kernel
theorem dX7_says_14 : decode cX7_says 14 = .ok (.lconst 0, 1) := by decide +kernel
theorem dX7_says_15 : decode cX7_says 15 = .ok (.ldc2_w 106, 3) := by decide +kernel
theorem dX7_says_18 : decode cX7_says 18 = .ok (.invokestatic 82, 3) := by decide +kernel
theorem dX7_says_21 : decode cX7_says 21 = .ok (.ifCond .ne 10, 3) := by decide +kernel
theorem dX7_says_24 : decode cX7_says 24 = .ok (.aload_n 0, 1) := by decide +kernel
theorem dX7_says_25 : decode cX7_says 25 = .ok (.bipush (-2), 2) := by decide +kernel
theorem dX7_says_27 : decode cX7_says 27 = .ok (.invokevirtual 95, 3) := by decide +kernel
theorem dX7_says_30 : decode cX7_says 30 = .ok (.ireturn, 1) := by decide +kernel
theorem dX7_says_31 : decode cX7_says 31 = .ok (.aload_n 0, 1) := by decide +kernel
theorem dX7_says_32 : decode cX7_says 32 = .ok (.getfield 7, 3) := by decide +kernel
theorem dX7_says_35 : decode cX7_says 35 = .ok (.iload_n 1, 1) := by decide +kernel
theorem dX7_says_36 : decode cX7_says 36 = .ok (.iaload, 1) := by decide +kernel
theorem dX7_says_37 : decode cX7_says 37 = .ok (.iconst 1, 1) := by decide +kernel
theorem dX7_says_38 : decode cX7_says 38 = .ok (.if_icmp .eq 26, 3) := by decide +kernel
theorem dX7_says_41 : decode cX7_says 41 = .ok (.aload_n 0, 1) := by decide +kernel
theorem dX7_says_42 : decode cX7_says 42 = .ok (.getfield 7, 3) := by decide +kernel
theorem dX7_says_45 : decode cX7_says 45 = .ok (.iload_n 1, 1) := by decide +kernel
theorem dX7_says_46 : decode cX7_says 46 = .ok (.iaload, 1) := by decide +kernel
theorem dX7_says_47 : decode cX7_says 47 = .ok (.iconst 2, 1) := by decide +kernel
theorem dX7_says_48 : decode cX7_says 48 = .ok (.if_icmp .ne 23, 3) := by decide +kernel
theorem dX7_says_71 : decode cX7_says 71 = .ok (.aload_n 0, 1) := by decide +kernel
theorem dX7_says_72 : decode cX7_says 72 = .ok (.getfield 7, 3) := by decide +kernel
theorem dX7_says_75 : decode cX7_says 75 = .ok (.iload_n 1, 1) := by decide +kernel
theorem dX7_says_76 : decode cX7_says 76 = .ok (.iaload, 1) := by decide +kernel
theorem dX7_says_77 : decode cX7_says 77 = .ok (.ifCond .ne 10, 3) := by decide +kernel
theorem dX7_says_80 : decode cX7_says 80 = .ok (.aload_n 0, 1) := by decide +kernel
theorem dX7_says_81 : decode cX7_says 81 = .ok (.bipush (-4), 2) := by decide +kernel
theorem dX7_says_83 : decode cX7_says 83 = .ok (.invokevirtual 95, 3) := by decide +kernel
theorem dX7_says_86 : decode cX7_says 86 = .ok (.ireturn, 1) := by decide +kernel
theorem dX7_newRoad_0 : decode cX7_newRoad 0 = .ok (.aload_n 0, 1) := by decide +kernel
theorem dX7_newRoad_1 : decode cX7_newRoad 1 = .ok (.getfield 42, 3) := by decide +kernel
theorem dX7_newRoad_4 : decode cX7_newRoad 4 = .ok (.aload_n 0, 1) := by decide +kernel
theorem dX7_newRoad_5 : decode cX7_newRoad 5 = .ok (.getfield 79, 3) := by decide +kernel
theorem dX7_newRoad_8 : decode cX7_newRoad 8 = .ok (.aaload, 1) := by decide +kernel
theorem dX7_newRoad_9 : decode cX7_newRoad 9 = .ok (.iconst 3, 1) := by decide +kernel
theorem dX7_newRoad_10 : decode cX7_newRoad 10 = .ok (.iconst 0, 1) := by decide +kernel
theorem dX7_newRoad_11 : decode cX7_newRoad 11 = .ok (.iastore, 1) := by decide +kernel
theorem dX7_newRoad_12 : decode cX7_newRoad 12 = .ok (.aload_n 0, 1) := by decide +kernel
theorem dX7_newRoad_13 : decode cX7_newRoad 13 = .ok (.getfield 42, 3) := by decide +kernel
theorem dX7_newRoad_16 : decode cX7_newRoad 16 = .ok (.aload_n 0, 1) := by decide +kernel
theorem dX7_newRoad_17 : decode cX7_newRoad 17 = .ok (.getfield 79, 3) := by decide +kernel
theorem dX7_newRoad_20 : decode cX7_newRoad 20 = .ok (.aaload, 1) := by decide +kernel
theorem dX7_newRoad_21 : decode cX7_newRoad 21 = .ok (.iconst 4, 1) := by decide +kernel
theorem dX7_newRoad_22 : decode cX7_newRoad 22 = .ok (.iconst 0, 1) := by decide +kernel
theorem dX7_newRoad_23 : decode cX7_newRoad 23 = .ok (.iastore, 1) := by decide +kernel
theorem dX7_newRoad_24 : decode cX7_newRoad 24 = .ok (.iconst 0, 1) := by decide +kernel
theorem dX7_newRoad_25 : decode cX7_newRoad 25 = .ok (.istore_n 1, 1) := by decide +kernel
theorem dX7_newRoad_26 : decode cX7_newRoad 26 = .ok (.iload_n 1, 1) := by decide +kernel
theorem dX7_newRoad_27 : decode cX7_newRoad 27 = .ok (.bipush 6, 2) := by decide +kernel
theorem dX7_newRoad_29 : decode cX7_newRoad 29 = .ok (.if_icmp .ge 21, 3) := by decide +kernel
theorem dX7_newRoad_32 : decode cX7_newRoad 32 = .ok (.aload_n 0, 1) := by decide +kernel
theorem dX7_newRoad_33 : decode cX7_newRoad 33 = .ok (.getfield 48, 3) := by decide +kernel
theorem dX7_newRoad_36 : decode cX7_newRoad 36 = .ok (.iload_n 1, 1) := by decide +kernel
theorem dX7_newRoad_37 : decode cX7_newRoad 37 = .ok (.aaload, 1) := by decide +kernel
theorem dX7_newRoad_38 : decode cX7_newRoad 38 = .ok (.aload_n 0, 1) := by decide +kernel
theorem dX7_newRoad_39 : decode cX7_newRoad 39 = .ok (.getfield 79, 3) := by decide +kernel
theorem dX7_newRoad_42 : decode cX7_newRoad 42 = .ok (.iconst (-1), 1) := by decide +kernel
theorem dX7_newRoad_43 : decode cX7_newRoad 43 = .ok (.iastore, 1) := by decide +kernel
theorem dX7_newRoad_44 : decode cX7_newRoad 44 = .ok (.iinc 1 1, 3) := by decide +kernel
theorem dX7_newRoad_47 : decode cX7_newRoad 47 = .ok (.goto (-21), 3) := by decide +kernel
theorem dX7_newRoad_50 : decode cX7_newRoad 50 = .ok (.return_, 1) := by decide +kernel
theorem dX7_newOne_0 : decode cX7_newOne 0 = .ok (.aload_n 0, 1) := by decide +kernel
theorem dX7_newOne_1 : decode cX7_newOne 1 = .ok (.getfield 45, 3) := by decide +kernel
theorem dX7_newOne_4 : decode cX7_newOne 4 = .ok (.aload_n 0, 1) := by decide +kernel
theorem dX7_newOne_5 : decode cX7_newOne 5 = .ok (.getfield 86, 3) := by decide +kernel
theorem dX7_newOne_8 : decode cX7_newOne 8 = .ok (.aaload, 1) := by decide +kernel
theorem dX7_newOne_9 : decode cX7_newOne 9 = .ok (.iconst 0, 1) := by decide +kernel
theorem dX7_newOne_10 : decode cX7_newOne 10 = .ok (.iload_n 1, 1) := by decide +kernel
theorem dX7_newOne_11 : decode cX7_newOne 11 = .ok (.iastore, 1) := by decide +kernel
theorem dX7_newOne_12 : decode cX7_newOne 12 = .ok (.aload_n 0, 1) := by decide +kernel
theorem dX7_newOne_13 : decode cX7_newOne 13 = .ok (.getfield 45, 3) := by decide +kernel
theorem dX7_newOne_16 : decode cX7_newOne 16 = .ok (.aload_n 0, 1) := by decide +kernel
theorem dX7_newOne_17 : decode cX7_newOne 17 = .ok (.getfield 86, 3) := by decide +kernel
theorem dX7_newOne_20 : decode cX7_newOne 20 = .ok (.aaload, 1) := by decide +kernel
theorem dX7_newOne_21 : decode cX7_newOne 21 = .ok (.iconst 1, 1) := by decide +kernel
theorem dX7_newOne_22 : decode cX7_newOne 22 = .ok (.iload_n 1, 1) := by decide +kernel
theorem dX7_newOne_23 : decode cX7_newOne 23 = .ok (.iastore, 1) := by decide +kernel
theorem dX7_newOne_24 : decode cX7_newOne 24 = .ok (.aload_n 0, 1) := by decide +kernel
theorem dX7_newOne_25 : decode cX7_newOne 25 = .ok (.getfield 45, 3) := by decide +kernel
theorem dX7_newOne_28 : decode cX7_newOne 28 = .ok (.aload_n 0, 1) := by decide +kernel
theorem dX7_newOne_29 : decode cX7_newOne 29 = .ok (.getfield 86, 3) := by decide +kernel
theorem dX7_newOne_32 : decode cX7_newOne 32 = .ok (.aaload, 1) := by decide +kernel
theorem dX7_newOne_33 : decode cX7_newOne 33 = .ok (.iconst 2, 1) := by decide +kernel
theorem dX7_newOne_34 : decode cX7_newOne 34 = .ok (.iconst 1, 1) := by decide +kernel
theorem dX7_newOne_35 : decode cX7_newOne 35 = .ok (.iload_n 1, 1) := by decide +kernel
theorem dX7_newOne_36 : decode cX7_newOne 36 = .ok (.ishl, 1) := by decide +kernel
theorem dX7_newOne_37 : decode cX7_newOne 37 = .ok (.iastore, 1) := by decide +kernel
theorem dX7_newOne_38 : decode cX7_newOne 38 = .ok (.aload_n 0, 1) := by decide +kernel
theorem dX7_newOne_39 : decode cX7_newOne 39 = .ok (.getfield 45, 3) := by decide +kernel
theorem dX7_newOne_42 : decode cX7_newOne 42 = .ok (.aload_n 0, 1) := by decide +kernel
theorem dX7_newOne_43 : decode cX7_newOne 43 = .ok (.getfield 86, 3) := by decide +kernel
theorem dX7_newOne_46 : decode cX7_newOne 46 = .ok (.aaload, 1) := by decide +kernel
theorem dX7_newOne_47 : decode cX7_newOne 47 = .ok (.iconst 3, 1) := by decide +kernel
theorem dX7_newOne_48 : decode cX7_newOne 48 = .ok (.iconst 0, 1) := by decide +kernel
theorem dX7_newOne_49 : decode cX7_newOne 49 = .ok (.iastore, 1) := by decide +kernel
theorem dX7_newOne_50 : decode cX7_newOne 50 = .ok (.iconst 0, 1) := by decide +kernel
theorem dX7_newOne_51 : decode cX7_newOne 51 = .ok (.istore_n 2, 1) := by decide +kernel
theorem dX7_newOne_52 : decode cX7_newOne 52 = .ok (.iload_n 2, 1) := by decide +kernel
theorem dX7_newOne_53 : decode cX7_newOne 53 = .ok (.bipush 16, 2) := by decide +kernel
theorem dX7_newOne_55 : decode cX7_newOne 55 = .ok (.if_icmp .ge 21, 3) := by decide +kernel
theorem dX7_newOne_58 : decode cX7_newOne 58 = .ok (.aload_n 0, 1) := by decide +kernel
theorem dX7_newOne_59 : decode cX7_newOne 59 = .ok (.getfield 48, 3) := by decide +kernel
theorem dX7_newOne_62 : decode cX7_newOne 62 = .ok (.aload_n 0, 1) := by decide +kernel
theorem dX7_newOne_63 : decode cX7_newOne 63 = .ok (.getfield 86, 3) := by decide +kernel
theorem dX7_newOne_66 : decode cX7_newOne 66 = .ok (.aaload, 1) := by decide +kernel
theorem dX7_newOne_67 : decode cX7_newOne 67 = .ok (.iload_n 2, 1) := by decide +kernel
theorem dX7_newOne_68 : decode cX7_newOne 68 = .ok (.iconst (-1), 1) := by decide +kernel
theorem dX7_newOne_69 : decode cX7_newOne 69 = .ok (.iastore, 1) := by decide +kernel
theorem dX7_newOne_70 : decode cX7_newOne 70 = .ok (.iinc 2 1, 3) := by decide +kernel
theorem dX7_newOne_73 : decode cX7_newOne 73 = .ok (.goto (-21), 3) := by decide +kernel
theorem dX7_newOne_76 : decode cX7_newOne 76 = .ok (.aload_n 0, 1) := by decide +kernel
theorem dX7_newOne_77 : decode cX7_newOne 77 = .ok (.dup, 1) := by decide +kernel
theorem dX7_newOne_78 : decode cX7_newOne 78 = .ok (.getfield 86, 3) := by decide +kernel
theorem dX7_newOne_81 : decode cX7_newOne 81 = .ok (.iconst 1, 1) := by decide +kernel
theorem dX7_newOne_82 : decode cX7_newOne 82 = .ok (.iadd, 1) := by decide +kernel
theorem dX7_newOne_83 : decode cX7_newOne 83 = .ok (.putfield 86, 3) := by decide +kernel
theorem dX7_newOne_86 : decode cX7_newOne 86 = .ok (.return_, 1) := by decide +kernel
theorem dX7_road_0 : decode cX7_road 0 = .ok (.iload_n 1, 1) := by decide +kernel
theorem dX7_road_1 : decode cX7_road 1 = .ok (.i2l, 1) := by decide +kernel
theorem dX7_road_2 : decode cX7_road 2 = .ok (.invokestatic 118, 3) := by decide +kernel
theorem dX7_road_5 : decode cX7_road 5 = .ok (.ifCond .eq 28, 3) := by decide +kernel
theorem dX7_road_8 : decode cX7_road 8 = .ok (.iload_n 2, 1) := by decide +kernel
theorem dX7_road_9 : decode cX7_road 9 = .ok (.i2l, 1) := by decide +kernel
theorem dX7_road_10 : decode cX7_road 10 = .ok (.invokestatic 118, 3) := by decide +kernel
theorem dX7_road_13 : decode cX7_road 13 = .ok (.ifCond .eq 20, 3) := by decide +kernel
theorem dX7_road_16 : decode cX7_road 16 = .ok (.iload_n 1, 1) := by decide +kernel
theorem dX7_road_17 : decode cX7_road 17 = .ok (.iload_n 2, 1) := by decide +kernel
theorem dX7_road_18 : decode cX7_road 18 = .ok (.if_icmp .eq 15, 3) := by decide +kernel
theorem dX7_road_21 : decode cX7_road 21 = .ok (.iload_n 3, 1) := by decide +kernel
theorem dX7_road_22 : decode cX7_road 22 = .ok (.i2l, 1) := by decide +kernel
theorem dX7_road_23 : decode cX7_road 23 = .ok (.lconst 1, 1) := by decide +kernel
theorem dX7_road_24 : decode cX7_road 24 = .ok (.ldc2_w 122, 3) := by decide +kernel
theorem dX7_road_27 : decode cX7_road 27 = .ok (.invokestatic 82, 3) := by decide +kernel
theorem dX7_road_30 : decode cX7_road 30 = .ok (.ifCond .ne 10, 3) := by decide +kernel
theorem dX7_road_33 : decode cX7_road 33 = .ok (.aload_n 0, 1) := by decide +kernel
theorem dX7_road_34 : decode cX7_road 34 = .ok (.bipush (-2), 2) := by decide +kernel
theorem dX7_road_36 : decode cX7_road 36 = .ok (.invokevirtual 95, 3) := by decide +kernel
theorem dX7_road_39 : decode cX7_road 39 = .ok (.ireturn, 1) := by decide +kernel
theorem dX7_road_40 : decode cX7_road 40 = .ok (.aload_n 0, 1) := by decide +kernel
theorem dX7_road_41 : decode cX7_road 41 = .ok (.getfield 79, 3) := by decide +kernel
theorem dX7_road_44 : decode cX7_road 44 = .ok (.bipush 16, 2) := by decide +kernel
theorem dX7_road_46 : decode cX7_road 46 = .ok (.if_icmp .ne 10, 3) := by decide +kernel
theorem dX7_road_56 : decode cX7_road 56 = .ok (.aload_n 0, 1) := by decide +kernel
theorem dX7_road_57 : decode cX7_road 57 = .ok (.invokevirtual 124, 3) := by decide +kernel
theorem dX7_road_60 : decode cX7_road 60 = .ok (.aload_n 0, 1) := by decide +kernel
theorem dX7_road_61 : decode cX7_road 61 = .ok (.getfield 42, 3) := by decide +kernel
theorem dX7_road_64 : decode cX7_road 64 = .ok (.aload_n 0, 1) := by decide +kernel
theorem dX7_road_65 : decode cX7_road 65 = .ok (.getfield 79, 3) := by decide +kernel
theorem dX7_road_68 : decode cX7_road 68 = .ok (.aaload, 1) := by decide +kernel
theorem dX7_road_69 : decode cX7_road 69 = .ok (.iconst 0, 1) := by decide +kernel
theorem dX7_road_70 : decode cX7_road 70 = .ok (.iload_n 1, 1) := by decide +kernel
theorem dX7_road_71 : decode cX7_road 71 = .ok (.iastore, 1) := by decide +kernel
theorem dX7_road_72 : decode cX7_road 72 = .ok (.aload_n 0, 1) := by decide +kernel
theorem dX7_road_73 : decode cX7_road 73 = .ok (.getfield 42, 3) := by decide +kernel
theorem dX7_road_76 : decode cX7_road 76 = .ok (.aload_n 0, 1) := by decide +kernel
theorem dX7_road_77 : decode cX7_road 77 = .ok (.getfield 79, 3) := by decide +kernel
theorem dX7_road_80 : decode cX7_road 80 = .ok (.aaload, 1) := by decide +kernel
theorem dX7_road_81 : decode cX7_road 81 = .ok (.iconst 1, 1) := by decide +kernel
theorem dX7_road_82 : decode cX7_road 82 = .ok (.iload_n 2, 1) := by decide +kernel
theorem dX7_road_83 : decode cX7_road 83 = .ok (.iastore, 1) := by decide +kernel
theorem dX7_road_84 : decode cX7_road 84 = .ok (.aload_n 0, 1) := by decide +kernel
theorem dX7_road_85 : decode cX7_road 85 = .ok (.getfield 42, 3) := by decide +kernel
theorem dX7_road_88 : decode cX7_road 88 = .ok (.aload_n 0, 1) := by decide +kernel
theorem dX7_road_89 : decode cX7_road 89 = .ok (.getfield 79, 3) := by decide +kernel
theorem dX7_road_92 : decode cX7_road 92 = .ok (.aaload, 1) := by decide +kernel
theorem dX7_road_93 : decode cX7_road 93 = .ok (.iconst 2, 1) := by decide +kernel
theorem dX7_road_94 : decode cX7_road 94 = .ok (.iload_n 3, 1) := by decide +kernel
theorem dX7_road_95 : decode cX7_road 95 = .ok (.iastore, 1) := by decide +kernel
theorem dX7_road_96 : decode cX7_road 96 = .ok (.aload_n 0, 1) := by decide +kernel
theorem dX7_road_97 : decode cX7_road 97 = .ok (.getfield 42, 3) := by decide +kernel
theorem dX7_road_100 : decode cX7_road 100 = .ok (.aload_n 0, 1) := by decide +kernel
theorem dX7_road_101 : decode cX7_road 101 = .ok (.getfield 79, 3) := by decide +kernel
theorem dX7_road_104 : decode cX7_road 104 = .ok (.aaload, 1) := by decide +kernel
theorem dX7_road_105 : decode cX7_road 105 = .ok (.iconst 4, 1) := by decide +kernel
theorem dX7_road_106 : decode cX7_road 106 = .ok (.iload 4, 2) := by decide +kernel
theorem dX7_road_108 : decode cX7_road 108 = .ok (.ifCond .eq 7, 3) := by decide +kernel
theorem dX7_road_111 : decode cX7_road 111 = .ok (.iconst 1, 1) := by decide +kernel
theorem dX7_road_112 : decode cX7_road 112 = .ok (.goto 4, 3) := by decide +kernel
theorem dX7_road_115 : decode cX7_road 115 = .ok (.iconst 0, 1) := by decide +kernel
theorem dX7_road_116 : decode cX7_road 116 = .ok (.iastore, 1) := by decide +kernel
theorem dX7_road_117 : decode cX7_road 117 = .ok (.aload_n 0, 1) := by decide +kernel
theorem dX7_road_118 : decode cX7_road 118 = .ok (.dup, 1) := by decide +kernel
theorem dX7_road_119 : decode cX7_road 119 = .ok (.getfield 79, 3) := by decide +kernel
theorem dX7_road_122 : decode cX7_road 122 = .ok (.dup_x1, 1) := by decide +kernel
theorem dX7_road_123 : decode cX7_road 123 = .ok (.iconst 1, 1) := by decide +kernel
theorem dX7_road_124 : decode cX7_road 124 = .ok (.iadd, 1) := by decide +kernel
theorem dX7_road_125 : decode cX7_road 125 = .ok (.putfield 79, 3) := by decide +kernel
theorem dX7_road_128 : decode cX7_road 128 = .ok (.ireturn, 1) := by decide +kernel
theorem dX7_one_0 : decode cX7_one 0 = .ok (.iload_n 1, 1) := by decide +kernel
theorem dX7_one_1 : decode cX7_one 1 = .ok (.i2l, 1) := by decide +kernel
theorem dX7_one_2 : decode cX7_one 2 = .ok (.invokestatic 118, 3) := by decide +kernel
theorem dX7_one_5 : decode cX7_one 5 = .ok (.ifCond .ne 10, 3) := by decide +kernel
theorem dX7_one_8 : decode cX7_one 8 = .ok (.aload_n 0, 1) := by decide +kernel
theorem dX7_one_9 : decode cX7_one 9 = .ok (.bipush (-2), 2) := by decide +kernel
theorem dX7_one_11 : decode cX7_one 11 = .ok (.invokevirtual 95, 3) := by decide +kernel
theorem dX7_one_14 : decode cX7_one 14 = .ok (.ireturn, 1) := by decide +kernel
theorem dX7_one_15 : decode cX7_one 15 = .ok (.aload_n 0, 1) := by decide +kernel
theorem dX7_one_16 : decode cX7_one 16 = .ok (.getfield 86, 3) := by decide +kernel
theorem dX7_one_19 : decode cX7_one 19 = .ok (.bipush 6, 2) := by decide +kernel
theorem dX7_one_21 : decode cX7_one 21 = .ok (.if_icmp .ne 10, 3) := by decide +kernel
theorem dX7_one_31 : decode cX7_one 31 = .ok (.aload_n 0, 1) := by decide +kernel
theorem dX7_one_32 : decode cX7_one 32 = .ok (.iload_n 1, 1) := by decide +kernel
theorem dX7_one_33 : decode cX7_one 33 = .ok (.invokevirtual 127, 3) := by decide +kernel
theorem dX7_one_36 : decode cX7_one 36 = .ok (.aload_n 0, 1) := by decide +kernel
theorem dX7_one_37 : decode cX7_one 37 = .ok (.getfield 86, 3) := by decide +kernel
theorem dX7_one_40 : decode cX7_one 40 = .ok (.iconst 1, 1) := by decide +kernel
theorem dX7_one_41 : decode cX7_one 41 = .ok (.isub, 1) := by decide +kernel
theorem dX7_one_42 : decode cX7_one 42 = .ok (.ireturn, 1) := by decide +kernel
theorem dX7_shut_0 : decode cX7_shut 0 = .ok (.aload_n 0, 1) := by decide +kernel
theorem dX7_shut_1 : decode cX7_shut 1 = .ok (.iload_n 1, 1) := by decide +kernel
theorem dX7_shut_2 : decode cX7_shut 2 = .ok (.i2l, 1) := by decide +kernel
theorem dX7_shut_3 : decode cX7_shut 3 = .ok (.invokevirtual 131, 3) := by decide +kernel
theorem dX7_shut_6 : decode cX7_shut 6 = .ok (.ifCond .ne 10, 3) := by decide +kernel
theorem dX7_shut_9 : decode cX7_shut 9 = .ok (.aload_n 0, 1) := by decide +kernel
theorem dX7_shut_10 : decode cX7_shut 10 = .ok (.bipush (-2), 2) := by decide +kernel
theorem dX7_shut_12 : decode cX7_shut 12 = .ok (.invokevirtual 95, 3) := by decide +kernel
theorem dX7_shut_15 : decode cX7_shut 15 = .ok (.ireturn, 1) := by decide +kernel
theorem dX7_anew_0 : decode cX7_anew 0 = .ok (.iload_n 1, 1) := by decide +kernel
theorem dX7_anew_1 : decode cX7_anew 1 = .ok (.i2l, 1) := by decide +kernel
theorem dX7_anew_2 : decode cX7_anew 2 = .ok (.lconst 0, 1) := by decide +kernel
theorem dX7_anew_3 : decode cX7_anew 3 = .ok (.ldc2_w 108, 3) := by decide +kernel
theorem dX7_anew_6 : decode cX7_anew 6 = .ok (.invokestatic 82, 3) := by decide +kernel
theorem dX7_anew_9 : decode cX7_anew 9 = .ok (.ifCond .ne 10, 3) := by decide +kernel
theorem dX7_anew_12 : decode cX7_anew 12 = .ok (.aload_n 0, 1) := by decide +kernel
theorem dX7_anew_13 : decode cX7_anew 13 = .ok (.bipush (-2), 2) := by decide +kernel
theorem dX7_anew_15 : decode cX7_anew 15 = .ok (.invokevirtual 95, 3) := by decide +kernel
theorem dX7_anew_18 : decode cX7_anew 18 = .ok (.ireturn, 1) := by decide +kernel
theorem dX7_anew_19 : decode cX7_anew 19 = .ok (.aload_n 0, 1) := by decide +kernel
theorem dX7_anew_20 : decode cX7_anew 20 = .ok (.getfield 134, 3) := by decide +kernel
theorem dX7_anew_23 : decode cX7_anew 23 = .ok (.istore_n 2, 1) := by decide +kernel
theorem dX7_anew_24 : decode cX7_anew 24 = .ok (.aload_n 0, 1) := by decide +kernel
theorem dX7_anew_25 : decode cX7_anew 25 = .ok (.iload_n 1, 1) := by decide +kernel
theorem dX7_anew_26 : decode cX7_anew 26 = .ok (.putfield 134, 3) := by decide +kernel
theorem dX7_anew_29 : decode cX7_anew 29 = .ok (.iload_n 2, 1) := by decide +kernel
theorem dX7_anew_30 : decode cX7_anew 30 = .ok (.ireturn, 1) := by decide +kernel
theorem dX7_feed_0 : decode cX7_feed 0 = .ok (.iload_n 2, 1) := by decide +kernel
theorem dX7_feed_1 : decode cX7_feed 1 = .ok (.i2l, 1) := by decide +kernel
theorem dX7_feed_2 : decode cX7_feed 2 = .ok (.lconst 1, 1) := by decide +kernel
theorem dX7_feed_3 : decode cX7_feed 3 = .ok (.ldc2_w 91, 3) := by decide +kernel
theorem dX7_feed_6 : decode cX7_feed 6 = .ok (.invokestatic 82, 3) := by decide +kernel
theorem dX7_feed_9 : decode cX7_feed 9 = .ok (.ifCond .ne 10, 3) := by decide +kernel
theorem dX7_feed_12 : decode cX7_feed 12 = .ok (.aload_n 0, 1) := by decide +kernel
theorem dX7_feed_13 : decode cX7_feed 13 = .ok (.bipush (-2), 2) := by decide +kernel
theorem dX7_feed_15 : decode cX7_feed 15 = .ok (.invokevirtual 95, 3) := by decide +kernel
theorem dX7_feed_18 : decode cX7_feed 18 = .ok (.ireturn, 1) := by decide +kernel
theorem dX7_feed_19 : decode cX7_feed 19 = .ok (.iload_n 2, 1) := by decide +kernel
theorem dX7_feed_20 : decode cX7_feed 20 = .ok (.sipush 250, 3) := by decide +kernel
theorem dX7_feed_23 : decode cX7_feed 23 = .ok (.aload_n 0, 1) := by decide +kernel
theorem dX7_feed_24 : decode cX7_feed 24 = .ok (.getfield 137, 3) := by decide +kernel
theorem dX7_feed_27 : decode cX7_feed 27 = .ok (.isub, 1) := by decide +kernel
theorem dX7_feed_28 : decode cX7_feed 28 = .ok (.if_icmp .le 10, 3) := by decide +kernel
theorem dX7_feed_38 : decode cX7_feed 38 = .ok (.iload_n 2, 1) := by decide +kernel
theorem dX7_feed_39 : decode cX7_feed 39 = .ok (.iconst 1, 1) := by decide +kernel
theorem dX7_feed_40 : decode cX7_feed 40 = .ok (.isub, 1) := by decide +kernel
theorem dX7_feed_41 : decode cX7_feed 41 = .ok (.istore_n 3, 1) := by decide +kernel
theorem dX7_feed_42 : decode cX7_feed 42 = .ok (.iload_n 3, 1) := by decide +kernel
theorem dX7_feed_43 : decode cX7_feed 43 = .ok (.ifCond .lt 35, 3) := by decide +kernel
theorem dX7_feed_46 : decode cX7_feed 46 = .ok (.aload_n 0, 1) := by decide +kernel
theorem dX7_feed_47 : decode cX7_feed 47 = .ok (.getfield 34, 3) := by decide +kernel
theorem dX7_feed_50 : decode cX7_feed 50 = .ok (.aload_n 0, 1) := by decide +kernel
theorem dX7_feed_51 : decode cX7_feed 51 = .ok (.dup, 1) := by decide +kernel
theorem dX7_feed_52 : decode cX7_feed 52 = .ok (.getfield 137, 3) := by decide +kernel
theorem dX7_feed_55 : decode cX7_feed 55 = .ok (.dup_x1, 1) := by decide +kernel
theorem dX7_feed_56 : decode cX7_feed 56 = .ok (.iconst 1, 1) := by decide +kernel
theorem dX7_feed_57 : decode cX7_feed 57 = .ok (.iadd, 1) := by decide +kernel
theorem dX7_feed_58 : decode cX7_feed 58 = .ok (.putfield 137, 3) := by decide +kernel
theorem dX7_feed_61 : decode cX7_feed 61 = .ok (.iload_n 1, 1) := by decide +kernel
theorem dX7_feed_62 : decode cX7_feed 62 = .ok (.bipush 8, 2) := by decide +kernel
theorem dX7_feed_64 : decode cX7_feed 64 = .ok (.iload_n 3, 1) := by decide +kernel
theorem dX7_feed_65 : decode cX7_feed 65 = .ok (.imul, 1) := by decide +kernel
theorem dX7_feed_66 : decode cX7_feed 66 = .ok (.ishr, 1) := by decide +kernel
theorem dX7_feed_67 : decode cX7_feed 67 = .ok (.sipush 255, 3) := by decide +kernel
theorem dX7_feed_70 : decode cX7_feed 70 = .ok (.iand, 1) := by decide +kernel
theorem dX7_feed_71 : decode cX7_feed 71 = .ok (.iastore, 1) := by decide +kernel
theorem dX7_feed_72 : decode cX7_feed 72 = .ok (.iinc 3 (-1), 3) := by decide +kernel
theorem dX7_feed_75 : decode cX7_feed 75 = .ok (.goto (-33), 3) := by decide +kernel
theorem dX7_feed_78 : decode cX7_feed 78 = .ok (.aload_n 0, 1) := by decide +kernel
theorem dX7_feed_79 : decode cX7_feed 79 = .ok (.getfield 137, 3) := by decide +kernel
theorem dX7_feed_82 : decode cX7_feed 82 = .ok (.ireturn, 1) := by decide +kernel
theorem dX7_wipe_0 : decode cX7_wipe 0 = .ok (.aload_n 0, 1) := by decide +kernel
theorem dX7_wipe_1 : decode cX7_wipe 1 = .ok (.getfield 137, 3) := by decide +kernel
theorem dX7_wipe_4 : decode cX7_wipe 4 = .ok (.istore_n 1, 1) := by decide +kernel
theorem dX7_wipe_5 : decode cX7_wipe 5 = .ok (.aload_n 0, 1) := by decide +kernel
theorem dX7_wipe_6 : decode cX7_wipe 6 = .ok (.iconst 0, 1) := by decide +kernel
theorem dX7_wipe_7 : decode cX7_wipe 7 = .ok (.putfield 137, 3) := by decide +kernel
theorem dX7_wipe_10 : decode cX7_wipe 10 = .ok (.iload_n 1, 1) := by decide +kernel
theorem dX7_wipe_11 : decode cX7_wipe 11 = .ok (.ireturn, 1) := by decide +kernel
theorem dX7_roadOf_0 : decode cX7_roadOf 0 = .ok (.aload_n 0, 1) := by decide +kernel
theorem dX7_roadOf_1 : decode cX7_roadOf 1 = .ok (.iload_n 1, 1) := by decide +kernel
theorem dX7_roadOf_2 : decode cX7_roadOf 2 = .ok (.i2l, 1) := by decide +kernel
theorem dX7_roadOf_3 : decode cX7_roadOf 3 = .ok (.invokevirtual 131, 3) := by decide +kernel
theorem dX7_roadOf_6 : decode cX7_roadOf 6 = .ok (.ifCond .eq 26, 3) := by decide +kernel
theorem dX7_roadOf_32 : decode cX7_roadOf 32 = .ok (.aload_n 0, 1) := by decide +kernel
theorem dX7_roadOf_33 : decode cX7_roadOf 33 = .ok (.bipush (-2), 2) := by decide +kernel
theorem dX7_roadOf_35 : decode cX7_roadOf 35 = .ok (.invokevirtual 95, 3) := by decide +kernel
theorem dX7_roadOf_38 : decode cX7_roadOf 38 = .ok (.ireturn, 1) := by decide +kernel
theorem dX7_oneOf_0 : decode cX7_oneOf 0 = .ok (.aload_n 0, 1) := by decide +kernel
theorem dX7_oneOf_1 : decode cX7_oneOf 1 = .ok (.iload_n 1, 1) := by decide +kernel
theorem dX7_oneOf_2 : decode cX7_oneOf 2 = .ok (.invokevirtual 235, 3) := by decide +kernel
theorem dX7_oneOf_5 : decode cX7_oneOf 5 = .ok (.ifCond .eq 26, 3) := by decide +kernel
theorem dX7_oneOf_31 : decode cX7_oneOf 31 = .ok (.aload_n 0, 1) := by decide +kernel
theorem dX7_oneOf_32 : decode cX7_oneOf 32 = .ok (.bipush (-2), 2) := by decide +kernel
theorem dX7_oneOf_34 : decode cX7_oneOf 34 = .ok (.invokevirtual 95, 3) := by decide +kernel
theorem dX7_oneOf_37 : decode cX7_oneOf 37 = .ok (.ireturn, 1) := by decide +kernel
theorem dX7_when_0 : decode cX7_when 0 = .ok (.aload_n 0, 1) := by decide +kernel
theorem dX7_when_1 : decode cX7_when 1 = .ok (.iload_n 1, 1) := by decide +kernel
theorem dX7_when_2 : decode cX7_when 2 = .ok (.invokevirtual 235, 3) := by decide +kernel
theorem dX7_when_5 : decode cX7_when 5 = .ok (.ifCond .eq 23, 3) := by decide +kernel
theorem dX7_when_28 : decode cX7_when 28 = .ok (.aload_n 0, 1) := by decide +kernel
theorem dX7_when_29 : decode cX7_when 29 = .ok (.bipush (-2), 2) := by decide +kernel
theorem dX7_when_31 : decode cX7_when 31 = .ok (.invokevirtual 95, 3) := by decide +kernel
theorem dX7_when_34 : decode cX7_when 34 = .ok (.ireturn, 1) := by decide +kernel
theorem dX7_left_0 : decode cX7_left 0 = .ok (.aload_n 0, 1) := by decide +kernel
theorem dX7_left_1 : decode cX7_left 1 = .ok (.iload_n 1, 1) := by decide +kernel
theorem dX7_left_2 : decode cX7_left 2 = .ok (.invokevirtual 235, 3) := by decide +kernel
theorem dX7_left_5 : decode cX7_left 5 = .ok (.ifCond .eq 11, 3) := by decide +kernel
theorem dX7_left_16 : decode cX7_left 16 = .ok (.aload_n 0, 1) := by decide +kernel
theorem dX7_left_17 : decode cX7_left 17 = .ok (.bipush (-2), 2) := by decide +kernel
theorem dX7_left_19 : decode cX7_left 19 = .ok (.invokevirtual 95, 3) := by decide +kernel
theorem dX7_left_22 : decode cX7_left 22 = .ok (.ireturn, 1) := by decide +kernel
theorem dX7_here_0 : decode cX7_here 0 = .ok (.aload_n 0, 1) := by decide +kernel
theorem dX7_here_1 : decode cX7_here 1 = .ok (.iload_n 1, 1) := by decide +kernel
theorem dX7_here_2 : decode cX7_here 2 = .ok (.invokevirtual 235, 3) := by decide +kernel
theorem dX7_here_5 : decode cX7_here 5 = .ok (.ifCond .eq 11, 3) := by decide +kernel
theorem dX7_here_16 : decode cX7_here 16 = .ok (.aload_n 0, 1) := by decide +kernel
theorem dX7_here_17 : decode cX7_here 17 = .ok (.bipush (-2), 2) := by decide +kernel
theorem dX7_here_19 : decode cX7_here 19 = .ok (.invokevirtual 95, 3) := by decide +kernel
theorem dX7_here_22 : decode cX7_here 22 = .ok (.ireturn, 1) := by decide +kernel
theorem dX7_reach_0 : decode cX7_reach 0 = .ok (.aload_n 0, 1) := by decide +kernel
theorem dX7_reach_1 : decode cX7_reach 1 = .ok (.iload_n 1, 1) := by decide +kernel
theorem dX7_reach_2 : decode cX7_reach 2 = .ok (.invokevirtual 235, 3) := by decide +kernel
theorem dX7_reach_5 : decode cX7_reach 5 = .ok (.ifCond .eq 23, 3) := by decide +kernel
theorem dX7_reach_28 : decode cX7_reach 28 = .ok (.aload_n 0, 1) := by decide +kernel
theorem dX7_reach_29 : decode cX7_reach 29 = .ok (.bipush (-2), 2) := by decide +kernel
theorem dX7_reach_31 : decode cX7_reach 31 = .ok (.invokevirtual 95, 3) := by decide +kernel
theorem dX7_reach_34 : decode cX7_reach 34 = .ok (.ireturn, 1) := by decide +kernel
theorem dX7_safe_0 : decode cX7_safe 0 = .ok (.aload_n 0, 1) := by decide +kernel
theorem dX7_safe_1 : decode cX7_safe 1 = .ok (.iload_n 1, 1) := by decide +kernel
theorem dX7_safe_2 : decode cX7_safe 2 = .ok (.invokevirtual 235, 3) := by decide +kernel
theorem dX7_safe_5 : decode cX7_safe 5 = .ok (.ifCond .ne 10, 3) := by decide +kernel
theorem dX7_safe_8 : decode cX7_safe 8 = .ok (.aload_n 0, 1) := by decide +kernel
theorem dX7_safe_9 : decode cX7_safe 9 = .ok (.bipush (-2), 2) := by decide +kernel
theorem dX7_safe_11 : decode cX7_safe 11 = .ok (.invokevirtual 95, 3) := by decide +kernel
theorem dX7_safe_14 : decode cX7_safe 14 = .ok (.ireturn, 1) := by decide +kernel
theorem dX7_go_0 : decode cX7_go 0 = .ok (.aload_n 0, 1) := by decide +kernel
theorem dX7_go_1 : decode cX7_go 1 = .ok (.iload_n 1, 1) := by decide +kernel
theorem dX7_go_2 : decode cX7_go 2 = .ok (.invokevirtual 235, 3) := by decide +kernel
theorem dX7_go_5 : decode cX7_go 5 = .ok (.ifCond .eq 12, 3) := by decide +kernel
theorem dX7_go_17 : decode cX7_go 17 = .ok (.aload_n 0, 1) := by decide +kernel
theorem dX7_go_18 : decode cX7_go 18 = .ok (.bipush (-2), 2) := by decide +kernel
theorem dX7_go_20 : decode cX7_go 20 = .ok (.invokevirtual 95, 3) := by decide +kernel
theorem dX7_go_23 : decode cX7_go 23 = .ok (.ireturn, 1) := by decide +kernel
theorem dX7_next_0 : decode cX7_next 0 = .ok (.iload_n 1, 1) := by decide +kernel
theorem dX7_next_1 : decode cX7_next 1 = .ok (.i2l, 1) := by decide +kernel
theorem dX7_next_2 : decode cX7_next 2 = .ok (.lconst 0, 1) := by decide +kernel
theorem dX7_next_3 : decode cX7_next 3 = .ok (.ldc2_w 89, 3) := by decide +kernel
theorem dX7_next_6 : decode cX7_next 6 = .ok (.invokestatic 82, 3) := by decide +kernel
theorem dX7_next_9 : decode cX7_next 9 = .ok (.ifCond .eq 11, 3) := by decide +kernel
theorem dX7_next_12 : decode cX7_next 12 = .ok (.aload_n 0, 1) := by decide +kernel
theorem dX7_next_13 : decode cX7_next 13 = .ok (.iload_n 2, 1) := by decide +kernel
theorem dX7_next_14 : decode cX7_next 14 = .ok (.invokevirtual 235, 3) := by decide +kernel
theorem dX7_next_17 : decode cX7_next 17 = .ok (.ifCond .ne 10, 3) := by decide +kernel
theorem dX7_next_20 : decode cX7_next 20 = .ok (.aload_n 0, 1) := by decide +kernel
theorem dX7_next_21 : decode cX7_next 21 = .ok (.bipush (-2), 2) := by decide +kernel
theorem dX7_next_23 : decode cX7_next 23 = .ok (.invokevirtual 95, 3) := by decide +kernel
theorem dX7_next_26 : decode cX7_next 26 = .ok (.ireturn, 1) := by decide +kernel
theorem dX7_run_0 : decode cX7_run 0 = .ok (.iload_n 1, 1) := by decide +kernel
theorem dX7_run_1 : decode cX7_run 1 = .ok (.i2l, 1) := by decide +kernel
theorem dX7_run_2 : decode cX7_run 2 = .ok (.lconst 0, 1) := by decide +kernel
theorem dX7_run_3 : decode cX7_run 3 = .ok (.ldc2_w 89, 3) := by decide +kernel
theorem dX7_run_6 : decode cX7_run 6 = .ok (.invokestatic 82, 3) := by decide +kernel
theorem dX7_run_9 : decode cX7_run 9 = .ok (.ifCond .eq 36, 3) := by decide +kernel
theorem dX7_run_12 : decode cX7_run 12 = .ok (.aload_n 0, 1) := by decide +kernel
theorem dX7_run_13 : decode cX7_run 13 = .ok (.iload_n 2, 1) := by decide +kernel
theorem dX7_run_14 : decode cX7_run 14 = .ok (.invokevirtual 235, 3) := by decide +kernel
theorem dX7_run_17 : decode cX7_run 17 = .ok (.ifCond .eq 28, 3) := by decide +kernel
theorem dX7_run_45 : decode cX7_run 45 = .ok (.aload_n 0, 1) := by decide +kernel
theorem dX7_run_46 : decode cX7_run 46 = .ok (.bipush (-2), 2) := by decide +kernel
theorem dX7_run_48 : decode cX7_run 48 = .ok (.invokevirtual 95, 3) := by decide +kernel
theorem dX7_run_51 : decode cX7_run 51 = .ok (.ireturn, 1) := by decide +kernel
theorem dX7_head_0 : decode cX7_head 0 = .ok (.aload_n 0, 1) := by decide +kernel
theorem dX7_head_1 : decode cX7_head 1 = .ok (.iload_n 1, 1) := by decide +kernel
theorem dX7_head_2 : decode cX7_head 2 = .ok (.invokevirtual 235, 3) := by decide +kernel
theorem dX7_head_5 : decode cX7_head 5 = .ok (.ifCond .ne 10, 3) := by decide +kernel
theorem dX7_head_8 : decode cX7_head 8 = .ok (.aload_n 0, 1) := by decide +kernel
theorem dX7_head_9 : decode cX7_head 9 = .ok (.bipush (-2), 2) := by decide +kernel
theorem dX7_head_11 : decode cX7_head 11 = .ok (.invokevirtual 95, 3) := by decide +kernel
theorem dX7_head_14 : decode cX7_head 14 = .ok (.ireturn, 1) := by decide +kernel
theorem dX7_lives_0 : decode cX7_lives 0 = .ok (.iload_n 1, 1) := by decide +kernel
theorem dX7_lives_1 : decode cX7_lives 1 = .ok (.i2l, 1) := by decide +kernel
theorem dX7_lives_2 : decode cX7_lives 2 = .ok (.lconst 0, 1) := by decide +kernel
theorem dX7_lives_3 : decode cX7_lives 3 = .ok (.ldc2_w 89, 3) := by decide +kernel
theorem dX7_lives_6 : decode cX7_lives 6 = .ok (.invokestatic 82, 3) := by decide +kernel
theorem dX7_lives_9 : decode cX7_lives 9 = .ok (.ifCond .eq 23, 3) := by decide +kernel
theorem dX7_lives_12 : decode cX7_lives 12 = .ok (.aload_n 0, 1) := by decide +kernel
theorem dX7_lives_13 : decode cX7_lives 13 = .ok (.iload_n 2, 1) := by decide +kernel
theorem dX7_lives_14 : decode cX7_lives 14 = .ok (.invokevirtual 235, 3) := by decide +kernel
theorem dX7_lives_17 : decode cX7_lives 17 = .ok (.ifCond .eq 15, 3) := by decide +kernel
theorem dX7_lives_32 : decode cX7_lives 32 = .ok (.aload_n 0, 1) := by decide +kernel
theorem dX7_lives_33 : decode cX7_lives 33 = .ok (.bipush (-2), 2) := by decide +kernel
theorem dX7_lives_35 : decode cX7_lives 35 = .ok (.invokevirtual 95, 3) := by decide +kernel
theorem dX7_lives_38 : decode cX7_lives 38 = .ok (.ireturn, 1) := by decide +kernel
theorem dX7_judge_0 : decode cX7_judge 0 = .ok (.aload_n 0, 1) := by decide +kernel
theorem dX7_judge_1 : decode cX7_judge 1 = .ok (.iload_n 1, 1) := by decide +kernel
theorem dX7_judge_2 : decode cX7_judge 2 = .ok (.iload_n 2, 1) := by decide +kernel
theorem dX7_judge_3 : decode cX7_judge 3 = .ok (.iload_n 3, 1) := by decide +kernel
theorem dX7_judge_4 : decode cX7_judge 4 = .ok (.bipush 20, 2) := by decide +kernel
theorem dX7_judge_6 : decode cX7_judge 6 = .ok (.invokevirtual 293, 3) := by decide +kernel
theorem dX7_judge_9 : decode cX7_judge 9 = .ok (.istore 4, 2) := by decide +kernel
theorem dX7_judge_11 : decode cX7_judge 11 = .ok (.iload 4, 2) := by decide +kernel
theorem dX7_judge_13 : decode cX7_judge 13 = .ok (.ifCond .eq 8, 3) := by decide +kernel
theorem dX7_judge_16 : decode cX7_judge 16 = .ok (.iload 4, 2) := by decide +kernel
theorem dX7_judge_18 : decode cX7_judge 18 = .ok (.goto 10, 3) := by decide +kernel
theorem dX7_judge_28 : decode cX7_judge 28 = .ok (.ireturn, 1) := by decide +kernel
theorem dX7_told_0 : decode cX7_told 0 = .ok (.iload 4, 2) := by decide +kernel
theorem dX7_told_2 : decode cX7_told 2 = .ok (.i2l, 1) := by decide +kernel
theorem dX7_told_3 : decode cX7_told 3 = .ok (.lconst 0, 1) := by decide +kernel
theorem dX7_told_4 : decode cX7_told 4 = .ok (.ldc2_w 300, 3) := by decide +kernel
theorem dX7_told_7 : decode cX7_told 7 = .ok (.invokestatic 82, 3) := by decide +kernel
theorem dX7_told_10 : decode cX7_told 10 = .ok (.ifCond .ne 10, 3) := by decide +kernel
theorem dX7_told_13 : decode cX7_told 13 = .ok (.aload_n 0, 1) := by decide +kernel
theorem dX7_told_14 : decode cX7_told 14 = .ok (.bipush (-2), 2) := by decide +kernel
theorem dX7_told_16 : decode cX7_told 16 = .ok (.invokevirtual 95, 3) := by decide +kernel
theorem dX7_told_19 : decode cX7_told 19 = .ok (.ireturn, 1) := by decide +kernel
theorem dX7_told_20 : decode cX7_told 20 = .ok (.aload_n 0, 1) := by decide +kernel
theorem dX7_told_21 : decode cX7_told 21 = .ok (.iload_n 1, 1) := by decide +kernel
theorem dX7_told_22 : decode cX7_told 22 = .ok (.iload_n 2, 1) := by decide +kernel
theorem dX7_told_23 : decode cX7_told 23 = .ok (.iload_n 3, 1) := by decide +kernel
theorem dX7_told_24 : decode cX7_told 24 = .ok (.bipush 20, 2) := by decide +kernel
theorem dX7_told_26 : decode cX7_told 26 = .ok (.invokevirtual 293, 3) := by decide +kernel
theorem dX7_told_29 : decode cX7_told 29 = .ok (.istore 5, 2) := by decide +kernel
theorem dX7_told_31 : decode cX7_told 31 = .ok (.iload 5, 2) := by decide +kernel
theorem dX7_told_33 : decode cX7_told 33 = .ok (.ifCond .eq 6, 3) := by decide +kernel
theorem dX7_told_36 : decode cX7_told 36 = .ok (.iload 5, 2) := by decide +kernel
theorem dX7_told_38 : decode cX7_told 38 = .ok (.ireturn, 1) := by decide +kernel
theorem dX7_law_0 : decode cX7_law 0 = .ok (.aload_n 0, 1) := by decide +kernel
theorem dX7_law_1 : decode cX7_law 1 = .ok (.iload_n 1, 1) := by decide +kernel
theorem dX7_law_2 : decode cX7_law 2 = .ok (.invokevirtual 235, 3) := by decide +kernel
theorem dX7_law_5 : decode cX7_law 5 = .ok (.ifCond .eq 15, 3) := by decide +kernel
theorem dX7_law_20 : decode cX7_law 20 = .ok (.aload_n 0, 1) := by decide +kernel
theorem dX7_law_21 : decode cX7_law 21 = .ok (.bipush (-2), 2) := by decide +kernel
theorem dX7_law_23 : decode cX7_law 23 = .ok (.invokevirtual 95, 3) := by decide +kernel
theorem dX7_law_26 : decode cX7_law 26 = .ok (.ireturn, 1) := by decide +kernel
theorem dX7_all_0 : decode cX7_all 0 = .ok (.aload_n 0, 1) := by decide +kernel
theorem dX7_all_1 : decode cX7_all 1 = .ok (.iload_n 1, 1) := by decide +kernel
theorem dX7_all_2 : decode cX7_all 2 = .ok (.invokevirtual 235, 3) := by decide +kernel
theorem dX7_all_5 : decode cX7_all 5 = .ok (.ifCond .eq 23, 3) := by decide +kernel
theorem dX7_all_28 : decode cX7_all 28 = .ok (.aload_n 0, 1) := by decide +kernel
theorem dX7_all_29 : decode cX7_all 29 = .ok (.bipush (-2), 2) := by decide +kernel
theorem dX7_all_31 : decode cX7_all 31 = .ok (.invokevirtual 95, 3) := by decide +kernel
theorem dX7_all_34 : decode cX7_all 34 = .ok (.ireturn, 1) := by decide +kernel
theorem dX7_way_0 : decode cX7_way 0 = .ok (.aload_n 0, 1) := by decide +kernel
theorem dX7_way_1 : decode cX7_way 1 = .ok (.iload_n 1, 1) := by decide +kernel
theorem dX7_way_2 : decode cX7_way 2 = .ok (.invokevirtual 235, 3) := by decide +kernel
theorem dX7_way_5 : decode cX7_way 5 = .ok (.ifCond .eq 23, 3) := by decide +kernel
theorem dX7_way_28 : decode cX7_way 28 = .ok (.aload_n 0, 1) := by decide +kernel
theorem dX7_way_29 : decode cX7_way 29 = .ok (.bipush (-2), 2) := by decide +kernel
theorem dX7_way_31 : decode cX7_way 31 = .ok (.invokevirtual 95, 3) := by decide +kernel
theorem dX7_way_34 : decode cX7_way 34 = .ok (.ireturn, 1) := by decide +kernel
theorem dX7_lacks_0 : decode cX7_lacks 0 = .ok (.aload_n 0, 1) := by decide +kernel
theorem dX7_lacks_1 : decode cX7_lacks 1 = .ok (.iload_n 1, 1) := by decide +kernel
theorem dX7_lacks_2 : decode cX7_lacks 2 = .ok (.invokevirtual 235, 3) := by decide +kernel
theorem dX7_lacks_5 : decode cX7_lacks 5 = .ok (.ifCond .ne 10, 3) := by decide +kernel
theorem dX7_lacks_8 : decode cX7_lacks 8 = .ok (.aload_n 0, 1) := by decide +kernel
theorem dX7_lacks_9 : decode cX7_lacks 9 = .ok (.bipush (-2), 2) := by decide +kernel
theorem dX7_lacks_11 : decode cX7_lacks 11 = .ok (.invokevirtual 95, 3) := by decide +kernel
theorem dX7_lacks_14 : decode cX7_lacks 14 = .ok (.ireturn, 1) := by decide +kernel
theorem dX7_longest_0 : decode cX7_longest 0 = .ok (.aload_n 0, 1) := by decide +kernel
theorem dX7_longest_1 : decode cX7_longest 1 = .ok (.iload_n 1, 1) := by decide +kernel
theorem dX7_longest_2 : decode cX7_longest 2 = .ok (.invokevirtual 235, 3) := by decide +kernel
theorem dX7_longest_5 : decode cX7_longest 5 = .ok (.ifCond .eq 15, 3) := by decide +kernel
theorem dX7_longest_20 : decode cX7_longest 20 = .ok (.aload_n 0, 1) := by decide +kernel
theorem dX7_longest_21 : decode cX7_longest 21 = .ok (.bipush (-2), 2) := by decide +kernel
theorem dX7_longest_23 : decode cX7_longest 23 = .ok (.invokevirtual 95, 3) := by decide +kernel
theorem dX7_longest_26 : decode cX7_longest 26 = .ok (.ireturn, 1) := by decide +kernel
theorem dX7_areTwo_0 : decode cX7_areTwo 0 = .ok (.aload_n 0, 1) := by decide +kernel
theorem dX7_areTwo_1 : decode cX7_areTwo 1 = .ok (.iload_n 1, 1) := by decide +kernel
theorem dX7_areTwo_2 : decode cX7_areTwo 2 = .ok (.invokevirtual 235, 3) := by decide +kernel
theorem dX7_areTwo_5 : decode cX7_areTwo 5 = .ok (.ifCond .eq 28, 3) := by decide +kernel
theorem dX7_areTwo_33 : decode cX7_areTwo 33 = .ok (.iconst 0, 1) := by decide +kernel
theorem dX7_areTwo_34 : decode cX7_areTwo 34 = .ok (.ireturn, 1) := by decide +kernel
theorem dX7_errands_0 : decode cX7_errands 0 = .ok (.aload_n 0, 1) := by decide +kernel
theorem dX7_errands_1 : decode cX7_errands 1 = .ok (.iload_n 1, 1) := by decide +kernel
theorem dX7_errands_2 : decode cX7_errands 2 = .ok (.iload_n 2, 1) := by decide +kernel
theorem dX7_errands_3 : decode cX7_errands 3 = .ok (.iload_n 3, 1) := by decide +kernel
theorem dX7_errands_4 : decode cX7_errands 4 = .ok (.invokevirtual 329, 3) := by decide +kernel
theorem dX7_errands_7 : decode cX7_errands 7 = .ok (.ifCond .eq 17, 3) := by decide +kernel
theorem dX7_errands_24 : decode cX7_errands 24 = .ok (.aload_n 0, 1) := by decide +kernel
theorem dX7_errands_25 : decode cX7_errands 25 = .ok (.bipush (-2), 2) := by decide +kernel
theorem dX7_errands_27 : decode cX7_errands 27 = .ok (.invokevirtual 95, 3) := by decide +kernel
theorem dX7_errands_30 : decode cX7_errands 30 = .ok (.ireturn, 1) := by decide +kernel
theorem dX7_cut_0 : decode cX7_cut 0 = .ok (.aload_n 0, 1) := by decide +kernel
theorem dX7_cut_1 : decode cX7_cut 1 = .ok (.iload_n 1, 1) := by decide +kernel
theorem dX7_cut_2 : decode cX7_cut 2 = .ok (.iload_n 2, 1) := by decide +kernel
theorem dX7_cut_3 : decode cX7_cut 3 = .ok (.iload_n 3, 1) := by decide +kernel
theorem dX7_cut_4 : decode cX7_cut 4 = .ok (.invokevirtual 329, 3) := by decide +kernel
theorem dX7_cut_7 : decode cX7_cut 7 = .ok (.ifCond .ne 10, 3) := by decide +kernel
theorem dX7_cut_10 : decode cX7_cut 10 = .ok (.aload_n 0, 1) := by decide +kernel
theorem dX7_cut_11 : decode cX7_cut 11 = .ok (.bipush (-2), 2) := by decide +kernel
theorem dX7_cut_13 : decode cX7_cut 13 = .ok (.invokevirtual 95, 3) := by decide +kernel
theorem dX7_cut_16 : decode cX7_cut 16 = .ok (.ireturn, 1) := by decide +kernel
theorem dX7_meets_0 : decode cX7_meets 0 = .ok (.aload_n 0, 1) := by decide +kernel
theorem dX7_meets_1 : decode cX7_meets 1 = .ok (.iload_n 1, 1) := by decide +kernel
theorem dX7_meets_2 : decode cX7_meets 2 = .ok (.iload_n 2, 1) := by decide +kernel
theorem dX7_meets_3 : decode cX7_meets 3 = .ok (.iload_n 3, 1) := by decide +kernel
theorem dX7_meets_4 : decode cX7_meets 4 = .ok (.bipush 8, 2) := by decide +kernel
theorem dX7_meets_6 : decode cX7_meets 6 = .ok (.invokevirtual 293, 3) := by decide +kernel
theorem dX7_meets_9 : decode cX7_meets 9 = .ok (.istore 4, 2) := by decide +kernel
theorem dX7_meets_11 : decode cX7_meets 11 = .ok (.iload 4, 2) := by decide +kernel
theorem dX7_meets_13 : decode cX7_meets 13 = .ok (.ifCond .eq 6, 3) := by decide +kernel
theorem dX7_meets_16 : decode cX7_meets 16 = .ok (.iload 4, 2) := by decide +kernel
theorem dX7_meets_18 : decode cX7_meets 18 = .ok (.ireturn, 1) := by decide +kernel
theorem dX7_near_0 : decode cX7_near 0 = .ok (.aload_n 0, 1) := by decide +kernel
theorem dX7_near_1 : decode cX7_near 1 = .ok (.iload_n 1, 1) := by decide +kernel
theorem dX7_near_2 : decode cX7_near 2 = .ok (.invokevirtual 235, 3) := by decide +kernel
theorem dX7_near_5 : decode cX7_near 5 = .ok (.ifCond .eq 11, 3) := by decide +kernel
theorem dX7_near_16 : decode cX7_near 16 = .ok (.aload_n 0, 1) := by decide +kernel
theorem dX7_near_17 : decode cX7_near 17 = .ok (.bipush (-2), 2) := by decide +kernel
theorem dX7_near_19 : decode cX7_near 19 = .ok (.invokevirtual 95, 3) := by decide +kernel
theorem dX7_near_22 : decode cX7_near 22 = .ok (.ireturn, 1) := by decide +kernel
theorem dX7_together_0 : decode cX7_together 0 = .ok (.aload_n 0, 1) := by decide +kernel
theorem dX7_together_1 : decode cX7_together 1 = .ok (.iload_n 1, 1) := by decide +kernel
theorem dX7_together_2 : decode cX7_together 2 = .ok (.invokevirtual 235, 3) := by decide +kernel
theorem dX7_together_5 : decode cX7_together 5 = .ok (.ifCond .eq 28, 3) := by decide +kernel
theorem dX7_together_33 : decode cX7_together 33 = .ok (.aload_n 0, 1) := by decide +kernel
theorem dX7_together_34 : decode cX7_together 34 = .ok (.bipush (-2), 2) := by decide +kernel
theorem dX7_together_36 : decode cX7_together 36 = .ok (.invokevirtual 95, 3) := by decide +kernel
theorem dX7_together_39 : decode cX7_together 39 = .ok (.ireturn, 1) := by decide +kernel
theorem dX7_frees_0 : decode cX7_frees 0 = .ok (.aload_n 0, 1) := by decide +kernel
theorem dX7_frees_1 : decode cX7_frees 1 = .ok (.iload_n 1, 1) := by decide +kernel
theorem dX7_frees_2 : decode cX7_frees 2 = .ok (.invokevirtual 235, 3) := by decide +kernel
theorem dX7_frees_5 : decode cX7_frees 5 = .ok (.ifCond .eq 36, 3) := by decide +kernel
theorem dX7_frees_41 : decode cX7_frees 41 = .ok (.aload_n 0, 1) := by decide +kernel
theorem dX7_frees_42 : decode cX7_frees 42 = .ok (.bipush (-2), 2) := by decide +kernel
theorem dX7_frees_44 : decode cX7_frees 44 = .ok (.invokevirtual 95, 3) := by decide +kernel
theorem dX7_frees_47 : decode cX7_frees 47 = .ok (.ireturn, 1) := by decide +kernel
theorem dX7_send_0 : decode cX7_send 0 = .ok (.aload_n 0, 1) := by decide +kernel
theorem dX7_send_1 : decode cX7_send 1 = .ok (.iload_n 1, 1) := by decide +kernel
theorem dX7_send_2 : decode cX7_send 2 = .ok (.invokevirtual 235, 3) := by decide +kernel
theorem dX7_send_5 : decode cX7_send 5 = .ok (.ifCond .eq 12, 3) := by decide +kernel
theorem dX7_send_17 : decode cX7_send 17 = .ok (.aload_n 0, 1) := by decide +kernel
theorem dX7_send_18 : decode cX7_send 18 = .ok (.bipush (-2), 2) := by decide +kernel
theorem dX7_send_20 : decode cX7_send 20 = .ok (.invokevirtual 95, 3) := by decide +kernel
theorem dX7_send_23 : decode cX7_send 23 = .ok (.ireturn, 1) := by decide +kernel
theorem dX7_wander_0 : decode cX7_wander 0 = .ok (.aload_n 0, 1) := by decide +kernel
theorem dX7_wander_1 : decode cX7_wander 1 = .ok (.iload_n 1, 1) := by decide +kernel
theorem dX7_wander_2 : decode cX7_wander 2 = .ok (.invokevirtual 235, 3) := by decide +kernel
theorem dX7_wander_5 : decode cX7_wander 5 = .ok (.ifCond .eq 15, 3) := by decide +kernel
theorem dX7_wander_20 : decode cX7_wander 20 = .ok (.aload_n 0, 1) := by decide +kernel
theorem dX7_wander_21 : decode cX7_wander 21 = .ok (.bipush (-2), 2) := by decide +kernel
theorem dX7_wander_23 : decode cX7_wander 23 = .ok (.invokevirtual 95, 3) := by decide +kernel
theorem dX7_wander_26 : decode cX7_wander 26 = .ok (.ireturn, 1) := by decide +kernel
theorem dX7_year_0 : decode cX7_year 0 = .ok (.aload_n 0, 1) := by decide +kernel
theorem dX7_year_1 : decode cX7_year 1 = .ok (.dup, 1) := by decide +kernel
theorem dX7_year_2 : decode cX7_year 2 = .ok (.getfield 211, 3) := by decide +kernel
theorem dX7_year_5 : decode cX7_year 5 = .ok (.iconst 1, 1) := by decide +kernel
theorem dX7_year_6 : decode cX7_year 6 = .ok (.iadd, 1) := by decide +kernel
theorem dX7_year_7 : decode cX7_year 7 = .ok (.putfield 211, 3) := by decide +kernel
theorem dX7_year_10 : decode cX7_year 10 = .ok (.aload_n 0, 1) := by decide +kernel
theorem dX7_year_11 : decode cX7_year 11 = .ok (.getfield 211, 3) := by decide +kernel
theorem dX7_year_14 : decode cX7_year 14 = .ok (.ireturn, 1) := by decide +kernel
theorem dX7_fast_0 : decode cX7_fast 0 = .ok (.iconst 0, 1) := by decide +kernel
theorem dX7_fast_1 : decode cX7_fast 1 = .ok (.istore_n 2, 1) := by decide +kernel
theorem dX7_fast_2 : decode cX7_fast 2 = .ok (.iconst 0, 1) := by decide +kernel
theorem dX7_fast_3 : decode cX7_fast 3 = .ok (.istore_n 3, 1) := by decide +kernel
theorem dX7_fast_4 : decode cX7_fast 4 = .ok (.iload_n 3, 1) := by decide +kernel
theorem dX7_fast_5 : decode cX7_fast 5 = .ok (.aload_n 0, 1) := by decide +kernel
theorem dX7_fast_6 : decode cX7_fast 6 = .ok (.getfield 86, 3) := by decide +kernel
theorem dX7_fast_9 : decode cX7_fast 9 = .ok (.if_icmp .ge 42, 3) := by decide +kernel
theorem dX7_fast_51 : decode cX7_fast 51 = .ok (.iload_n 2, 1) := by decide +kernel
theorem dX7_fast_52 : decode cX7_fast 52 = .ok (.ireturn, 1) := by decide +kernel
theorem dX7_seed_0 : decode cX7_seed 0 = .ok (.aload_n 0, 1) := by decide +kernel
theorem dX7_seed_1 : decode cX7_seed 1 = .ok (.getfield 51, 3) := by decide +kernel
theorem dX7_seed_4 : decode cX7_seed 4 = .ok (.istore_n 2, 1) := by decide +kernel
theorem dX7_seed_5 : decode cX7_seed 5 = .ok (.aload_n 0, 1) := by decide +kernel
theorem dX7_seed_6 : decode cX7_seed 6 = .ok (.iload_n 1, 1) := by decide +kernel
theorem dX7_seed_7 : decode cX7_seed 7 = .ok (.putfield 51, 3) := by decide +kernel
theorem dX7_seed_10 : decode cX7_seed 10 = .ok (.iload_n 2, 1) := by decide +kernel
theorem dX7_seed_11 : decode cX7_seed 11 = .ok (.ireturn, 1) := by decide +kernel
theorem dX7_back_0 : decode cX7_back 0 = .ok (.aload_n 0, 1) := by decide +kernel
theorem dX7_back_1 : decode cX7_back 1 = .ok (.getfield 351, 3) := by decide +kernel
theorem dX7_back_4 : decode cX7_back 4 = .ok (.ifnonnull 10, 3) := by decide +kernel
theorem dX7_back_7 : decode cX7_back 7 = .ok (.aload_n 0, 1) := by decide +kernel
theorem dX7_back_8 : decode cX7_back 8 = .ok (.bipush (-5), 2) := by decide +kernel
theorem dX7_back_10 : decode cX7_back 10 = .ok (.invokevirtual 95, 3) := by decide +kernel
theorem dX7_back_13 : decode cX7_back 13 = .ok (.ireturn, 1) := by decide +kernel
theorem dX7_status_0 : decode cX7_status 0 = .ok (.iconst 0, 1) := by decide +kernel
theorem dX7_status_1 : decode cX7_status 1 = .ok (.istore_n 2, 1) := by decide +kernel
theorem dX7_status_2 : decode cX7_status 2 = .ok (.iload_n 1, 1) := by decide +kernel
theorem dX7_status_3 : decode cX7_status 3 = .ok (.tableswitch 170 0 8 #[49, 54, 59, 64, 69, 98, 103, 108, 141], 49) := by decide +kernel
theorem dX7_status_52 : decode cX7_status 52 = .ok (.aload_n 0, 1) := by decide +kernel
theorem dX7_status_53 : decode cX7_status 53 = .ok (.getfield 79, 3) := by decide +kernel
theorem dX7_status_56 : decode cX7_status 56 = .ok (.ireturn, 1) := by decide +kernel
theorem dX7_status_57 : decode cX7_status 57 = .ok (.aload_n 0, 1) := by decide +kernel
theorem dX7_status_58 : decode cX7_status 58 = .ok (.getfield 86, 3) := by decide +kernel
theorem dX7_status_61 : decode cX7_status 61 = .ok (.ireturn, 1) := by decide +kernel
theorem dX7_status_62 : decode cX7_status 62 = .ok (.aload_n 0, 1) := by decide +kernel
theorem dX7_status_63 : decode cX7_status 63 = .ok (.getfield 211, 3) := by decide +kernel
theorem dX7_status_66 : decode cX7_status 66 = .ok (.ireturn, 1) := by decide +kernel
theorem dX7_status_67 : decode cX7_status 67 = .ok (.aload_n 0, 1) := by decide +kernel
theorem dX7_status_68 : decode cX7_status 68 = .ok (.getfield 134, 3) := by decide +kernel
theorem dX7_status_71 : decode cX7_status 71 = .ok (.ireturn, 1) := by decide +kernel
theorem dX7_status_72 : decode cX7_status 72 = .ok (.iconst 0, 1) := by decide +kernel
theorem dX7_status_73 : decode cX7_status 73 = .ok (.istore_n 3, 1) := by decide +kernel
theorem dX7_status_74 : decode cX7_status 74 = .ok (.iload_n 3, 1) := by decide +kernel
theorem dX7_status_75 : decode cX7_status 75 = .ok (.aload_n 0, 1) := by decide +kernel
theorem dX7_status_76 : decode cX7_status 76 = .ok (.getfield 86, 3) := by decide +kernel
theorem dX7_status_79 : decode cX7_status 79 = .ok (.if_icmp .ge 20, 3) := by decide +kernel
theorem dX7_status_99 : decode cX7_status 99 = .ok (.iload_n 2, 1) := by decide +kernel
theorem dX7_status_100 : decode cX7_status 100 = .ok (.ireturn, 1) := by decide +kernel
theorem dX7_status_101 : decode cX7_status 101 = .ok (.aload_n 0, 1) := by decide +kernel
theorem dX7_status_102 : decode cX7_status 102 = .ok (.getfield 137, 3) := by decide +kernel
theorem dX7_status_105 : decode cX7_status 105 = .ok (.ireturn, 1) := by decide +kernel
theorem dX7_status_106 : decode cX7_status 106 = .ok (.aload_n 0, 1) := by decide +kernel
theorem dX7_status_107 : decode cX7_status 107 = .ok (.getfield 51, 3) := by decide +kernel
theorem dX7_status_110 : decode cX7_status 110 = .ok (.ireturn, 1) := by decide +kernel
theorem dX7_status_111 : decode cX7_status 111 = .ok (.iconst 0, 1) := by decide +kernel
theorem dX7_status_112 : decode cX7_status 112 = .ok (.istore_n 3, 1) := by decide +kernel
theorem dX7_status_113 : decode cX7_status 113 = .ok (.iload_n 3, 1) := by decide +kernel
theorem dX7_status_114 : decode cX7_status 114 = .ok (.bipush 8, 2) := by decide +kernel
theorem dX7_status_116 : decode cX7_status 116 = .ok (.if_icmp .ge 26, 3) := by decide +kernel
theorem dX7_status_119 : decode cX7_status 119 = .ok (.iload_n 2, 1) := by decide +kernel
theorem dX7_status_120 : decode cX7_status 120 = .ok (.aload_n 0, 1) := by decide +kernel
theorem dX7_status_121 : decode cX7_status 121 = .ok (.getfield 7, 3) := by decide +kernel
theorem dX7_status_124 : decode cX7_status 124 = .ok (.iload_n 3, 1) := by decide +kernel
theorem dX7_status_125 : decode cX7_status 125 = .ok (.iaload, 1) := by decide +kernel
theorem dX7_status_126 : decode cX7_status 126 = .ok (.ifCond .eq 7, 3) := by decide +kernel
theorem dX7_status_133 : decode cX7_status 133 = .ok (.iconst 0, 1) := by decide +kernel
theorem dX7_status_134 : decode cX7_status 134 = .ok (.iadd, 1) := by decide +kernel
theorem dX7_status_135 : decode cX7_status 135 = .ok (.istore_n 2, 1) := by decide +kernel
theorem dX7_status_136 : decode cX7_status 136 = .ok (.iinc 3 1, 3) := by decide +kernel
theorem dX7_status_139 : decode cX7_status 139 = .ok (.goto (-26), 3) := by decide +kernel
theorem dX7_status_142 : decode cX7_status 142 = .ok (.iload_n 2, 1) := by decide +kernel
theorem dX7_status_143 : decode cX7_status 143 = .ok (.ireturn, 1) := by decide +kernel
theorem dX7_status_144 : decode cX7_status 144 = .ok (.iconst 0, 1) := by decide +kernel
theorem dX7_status_145 : decode cX7_status 145 = .ok (.istore_n 3, 1) := by decide +kernel
theorem dX7_status_146 : decode cX7_status 146 = .ok (.iload_n 3, 1) := by decide +kernel
theorem dX7_status_147 : decode cX7_status 147 = .ok (.aload_n 0, 1) := by decide +kernel
theorem dX7_status_148 : decode cX7_status 148 = .ok (.getfield 79, 3) := by decide +kernel
theorem dX7_status_151 : decode cX7_status 151 = .ok (.if_icmp .ge 20, 3) := by decide +kernel
theorem dX7_status_171 : decode cX7_status 171 = .ok (.iload_n 2, 1) := by decide +kernel
theorem dX7_status_172 : decode cX7_status 172 = .ok (.ireturn, 1) := by decide +kernel
theorem dX7_status_173 : decode cX7_status 173 = .ok (.iload_n 1, 1) := by decide +kernel
theorem dX7_status_174 : decode cX7_status 174 = .ok (.i2l, 1) := by decide +kernel
theorem dX7_status_175 : decode cX7_status 175 = .ok (.ldc2_w 354, 3) := by decide +kernel
theorem dX7_status_178 : decode cX7_status 178 = .ok (.ldc2_w 356, 3) := by decide +kernel
theorem dX7_status_181 : decode cX7_status 181 = .ok (.invokestatic 82, 3) := by decide +kernel
theorem dX7_status_184 : decode cX7_status 184 = .ok (.ifCond .eq 15, 3) := by decide +kernel
theorem dX7_status_187 : decode cX7_status 187 = .ok (.aload_n 0, 1) := by decide +kernel
theorem dX7_status_188 : decode cX7_status 188 = .ok (.getfield 37, 3) := by decide +kernel
theorem dX7_status_191 : decode cX7_status 191 = .ok (.iload_n 1, 1) := by decide +kernel
theorem dX7_status_192 : decode cX7_status 192 = .ok (.bipush 10, 2) := by decide +kernel
theorem dX7_status_194 : decode cX7_status 194 = .ok (.isub, 1) := by decide +kernel
theorem dX7_status_195 : decode cX7_status 195 = .ok (.iaload, 1) := by decide +kernel
theorem dX7_status_196 : decode cX7_status 196 = .ok (.goto 4, 3) := by decide +kernel
theorem dX7_status_199 : decode cX7_status 199 = .ok (.iconst (-1), 1) := by decide +kernel
theorem dX7_status_200 : decode cX7_status 200 = .ok (.ireturn, 1) := by decide +kernel
theorem gx_it {v lo hi : Int32} {L H : Int64} (hL : L = lo.toInt64) (hH : H = hi.toInt64) (h1 : ¬ lg_cmp v.toInt64 L < 0) (h2 : ¬ 0 < lg_cmp v.toInt64 H) : gx_b v lo hi = true := by
  subst hL; subst hH
  rw [lg_cmp_lt, Int64.lt_iff_toInt_lt] at h1
  rw [lg_cmp_gt, Int64.lt_iff_toInt_lt] at h2
  simp only [Int32.toInt_toInt64] at h1 h2
  simp only [gx_b, decide_eq_true_eq, Int32.le_iff_toInt_le]
  omega
theorem gx_if1 {v lo hi : Int32} {L : Int64} (hL : L = lo.toInt64) (h1 : lg_cmp v.toInt64 L < 0) : gx_b v lo hi = false := by
  subst hL
  rw [lg_cmp_lt, Int64.lt_iff_toInt_lt] at h1
  simp only [Int32.toInt_toInt64] at h1
  simp only [gx_b, decide_eq_false_iff_not, Int32.le_iff_toInt_le]
  omega
theorem gx_if2 {v lo hi : Int32} {H : Int64} (hH : H = hi.toInt64) (h2 : 0 < lg_cmp v.toInt64 H) : gx_b v lo hi = false := by
  subst hH
  rw [lg_cmp_gt, Int64.lt_iff_toInt_lt] at h2
  simp only [Int32.toInt_toInt64] at h2
  simp only [gx_b, decide_eq_false_iff_not, Int32.le_iff_toInt_le]
  omega
theorem gx_v10 {v : Int32} (h : gx_b v 12 16 = true) : vp_in (v - 10) 8 := by
  have hv : v = 12 ∨ v = 13 ∨ v = 14 ∨ v = 15 ∨ v = 16 := by
    simp only [gx_b, decide_eq_true_eq, Int32.le_iff_toInt_le] at h
    simp only [← Int32.toInt_inj]
    have h1 : (12 : Int32).toInt = 12 := by decide
    have h2 : (13 : Int32).toInt = 13 := by decide
    have h3 : (14 : Int32).toInt = 14 := by decide
    have h4 : (15 : Int32).toInt = 15 := by decide
    have h5 : (16 : Int32).toInt = 16 := by decide
    omega
  rcases hv with rfl | rfl | rfl | rfl | rfl <;> exact gx_vin (by decide)
set_option maxHeartbeats 4000000 in
set_option maxRecDepth 100000 in
theorem m_in (l : Launch) (D : va_G) (k : Nat → ClassId) (v : Int32) (lo : Int32) (hi : Int32) (L : Int64) (Hh : Int64) (hL : L = lo.toInt64) (hH : Hh = hi.toInt64) (sz : Nat) : Met l yX7_in (.code yX7_in cX7_in 6 (some .boolean) :: gx_T) ({ frames := 0, cells := 0, slots := 0, locals := 0 }) (gx_Pre D k [.long ((v).toInt64), .long L, .long Hh] ([]) sz) (gx_Pi (fun r => r = 1 ∧ gx_b v lo hi = true ∨ r = 0 ∧ gx_b v lo hi = false)) 0 0 gx_No := by
  refine gx_metP (y := yX7_in) (cc := cX7_in) (n := 6) (ret := (some .boolean)) (av := [.long ((v).toInt64), .long L, .long Hh]) (by decide) (Nat.le_of_ble_eq_true rfl) ?_
  intro p e s m below meth c ls C hP hD hK hS hl
  obtain ⟨hx, hb, hr, hml, hown, hT, hlk, hin⟩ := id C
  have hown : s.vm.findClass RX7 = some m.cls := hown
  have hl : lv_has ls 6 [(0, .long ((v).toInt64)), (2, .long L), (4, .long Hh)] := hl
  refine lv_lload_n hx hb dX7_in_0 rfl (lv_at hl 0 rfl) ?_
  refine lv_lload_n hx hb dX7_in_1 rfl (lv_at hl 1 rfl) ?_
  refine W.lcmp hx hb dX7_in_2 ?_
  refine lv_if_lt (tgt := 17) hx hb dX7_in_3 (by decide) (fun c_1 => ?_) (fun c_1 => ?_)
  · refine lv_iconst (v := 0) hx hb dX7_in_17 (by decide) ?_
    exact gx_retPZ C hS rfl (Or.inr ⟨rfl, gx_if1 hL c_1⟩) dX7_in_18
  · refine lv_lload_n hx hb dX7_in_6 rfl (lv_at hl 0 rfl) ?_
    refine lv_lload hx hb dX7_in_7 (lv_at hl 2 rfl) ?_
    refine W.lcmp hx hb dX7_in_9 ?_
    refine lv_if_gt (tgt := 17) hx hb dX7_in_10 (by decide) (fun c_2 => ?_) (fun c_2 => ?_)
    · refine lv_iconst (v := 0) hx hb dX7_in_17 (by decide) ?_
      exact gx_retPZ C hS rfl (Or.inr ⟨rfl, gx_if2 hH c_2⟩) dX7_in_18
    · refine lv_iconst (v := 1) hx hb dX7_in_13 (by decide) ?_
      refine lv_goto (tgt := 18) hx hb dX7_in_14 (by decide) ?_
      exact gx_retPZ C hS rfl (Or.inl ⟨rfl, gx_it hL hH c_1 c_2⟩) dX7_in_18
set_option maxHeartbeats 4000000 in
set_option maxRecDepth 100000 in
theorem m_isPlace (l : Launch) (D : va_G) (k : Nat → ClassId) (v : Int32) (sz : Nat) : Met l yX7_isPlace (.code yX7_isPlace cX7_isPlace 2 (some .boolean) :: gx_T) ({ frames := 1, cells := 0, slots := 0, locals := 25 }) (gx_Pre D k [.long ((v).toInt64)] ([]) sz) (gx_Pi (fun r => r = 1 ∧ gx_b v 0 7 = true ∨ r = 0 ∧ gx_b v 0 7 = false)) 0 0 gx_No := by
  refine gx_metP (y := yX7_isPlace) (cc := cX7_isPlace) (n := 2) (ret := (some .boolean)) (av := [.long ((v).toInt64)]) (by decide) (Nat.le_of_ble_eq_true rfl) ?_
  intro p e s m below meth c ls C hP hD hK hS hl
  obtain ⟨hx, hb, hr, hml, hown, hT, hlk, hin⟩ := id C
  have hown : s.vm.findClass RX7 = some m.cls := hown
  have hl : lv_has ls 2 [(0, .long ((v).toInt64))] := hl
  refine lv_lload_n hx hb dX7_isPlace_0 rfl (lv_at hl 0 rfl) ?_
  refine lv_lconst (v := 0) hx hb dX7_isPlace_1 (by decide) ?_
  refine lv_ldc2 (v := 7) hx hb hown (hT _ wd_1046) dX7_isPlace_2 ?_
  refine gx_pi hP hS (gx_runS (na := 3) (As := [.long ((v).toInt64), .long 0, .long 7]) (rest := []) C hl.1 hK (gx_subP (wc := ([] : va_W)) hP [] rfl) ((hD.sub (ws' := ([] : va_W)) [] (by decide) rfl).weaken (fun _ _ _ _ => trivial)) (m_in l D k v 0 7 0 7 (by decide) (by decide) _) gS_RX7_82 (by decide +kernel) rfl rfl ⟨Nat.le_of_ble_eq_true rfl, Nat.le_of_ble_eq_true rfl⟩ rfl rfl (Nat.le_of_ble_eq_true rfl) dX7_isPlace_5 ⟨Nat.le_of_ble_eq_true rfl, Nat.le_of_ble_eq_true rfl⟩) (fun r_2 H locs pc_1 hP hS => ?_)
  have oc_1 : r_2 = 1 ∧ gx_b v 0 7 = true ∨ r_2 = 0 ∧ gx_b v 0 7 = false := pc_1
  clear pc_1
  rcases oc_1 with ⟨rfl, c_1⟩ | ⟨rfl, c_1⟩
  · exact gx_retPZ C hS rfl (Or.inl ⟨rfl, c_1⟩) dX7_isPlace_8
  · exact gx_retPZ C hS rfl (Or.inr ⟨rfl, c_1⟩) dX7_isPlace_8
set_option maxHeartbeats 4000000 in
set_option maxRecDepth 100000 in
theorem m_isRoad (l : Launch) (D : va_G) (k : Nat → ClassId) (hm : Nat) (am : Nat → Nat) (v : Int32) (sz : Nat) : Met l yX7_isRoad (.code yX7_isRoad cX7_isRoad 3 (some .boolean) :: gx_T) ({ frames := 1, cells := 0, slots := 0, locals := 25 }) (gx_Pre D k [.ref hm, .long ((v).toInt64)] ([(hm, .inr (5, [.ref (am 1), .ref (am 2), .ref (am 3), .ref (am 4), .ref (am 5), .ref (am 6), .ref (am 7), .ref (am 8), .int 0, .ref (am 9), .int 0, .ref (am 10), .int 0, .ref (am 11), .ref (am 12), .int 0, .int 0, .int 1, .null, .null, .int 0, .int 0, .int 0, .long 0, .int 0, .ref (am 13), .int 0, .int 0, .int 0, .ref (am 14), .ref (am 15), .ref (am 16), .ref (am 17), .int 0, .ref (am 18), .ref (am 19), .ref (am 20)]))]) sz) (gx_Pi (fun r => r = 0)) 0 0 gx_No := by
  refine gx_metP (y := yX7_isRoad) (cc := cX7_isRoad) (n := 3) (ret := (some .boolean)) (av := [.ref hm, .long ((v).toInt64)]) (by decide) (Nat.le_of_ble_eq_true rfl) ?_
  intro p e s m below meth c ls C hP hD hK hS hl
  obtain ⟨hx, hb, hr, hml, hown, hT, hlk, hin⟩ := id C
  have hown : s.vm.findClass RX7 = some m.cls := hown
  have hl : lv_has ls 3 [(0, .ref hm), (1, .long ((v).toInt64))] := hl
  refine lv_lload_n hx hb dX7_isRoad_0 rfl (lv_at hl 1 rfl) ?_
  refine lv_lconst (v := 0) hx hb dX7_isRoad_1 (by decide) ?_
  refine lv_aload_n hx hb dX7_isRoad_2 rfl (lv_at hl 0 rfl) ?_
  refine va_get (D := D) (ci := 5) (v := .int 0) (C := RX7) (T := TX7) (N := 37) hx hb hT iw_TX7 hown hK.1 hP 0 rfl rfl 10 (by decide) (hT _ wd_940) (fun _ h9 => h9) rfl dX7_isRoad_3 ?_
  refine lv_iconst (v := 1) hx hb dX7_isRoad_6 (by decide) ?_
  refine lv_isub hx hb dX7_isRoad_7 ?_
  refine gx_cst (v := (-1)) (by decide) ?_
  refine lv_i2l (v := (-1)) hx hb dX7_isRoad_8 (by decide) ?_
  refine gx_pi hP hS (gx_runS (na := 3) (As := [.long ((v).toInt64), .long 0, .long (-1)]) (rest := []) C hl.1 hK (gx_subP (wc := ([] : va_W)) hP [] rfl) ((hD.sub (ws' := ([] : va_W)) [] (by decide) rfl).weaken (fun _ _ _ _ => trivial)) (m_in l D k v 0 (-1) 0 (-1) (by decide) (by decide) _) gS_RX7_82 (by decide +kernel) rfl rfl ⟨Nat.le_of_ble_eq_true rfl, Nat.le_of_ble_eq_true rfl⟩ rfl rfl (Nat.le_of_ble_eq_true rfl) dX7_isRoad_9 ⟨Nat.le_of_ble_eq_true rfl, Nat.le_of_ble_eq_true rfl⟩) (fun r_2 H locs pc_1 hP hS => ?_)
  have oc_1 : r_2 = 1 ∧ gx_b v 0 (-1) = true ∨ r_2 = 0 ∧ gx_b v 0 (-1) = false := pc_1
  clear pc_1
  rcases oc_1 with ⟨rfl, c_1⟩ | ⟨rfl, c_1⟩
  · exact absurd c_1 (by first | decide | (rw [gx_bn]; decide) | simp [gx_bn])
  · exact gx_retPZ C hS rfl (rfl) dX7_isRoad_12
set_option maxHeartbeats 4000000 in
set_option maxRecDepth 100000 in
theorem m_isOne (l : Launch) (D : va_G) (k : Nat → ClassId) (hm : Nat) (am : Nat → Nat) (v : Int32) (sz : Nat) : Met l yX7_isOne (.code yX7_isOne cX7_isOne 2 (some .boolean) :: gx_T) ({ frames := 1, cells := 0, slots := 0, locals := 25 }) (gx_Pre D k [.ref hm, .int v] ([(hm, .inr (5, [.ref (am 1), .ref (am 2), .ref (am 3), .ref (am 4), .ref (am 5), .ref (am 6), .ref (am 7), .ref (am 8), .int 0, .ref (am 9), .int 0, .ref (am 10), .int 0, .ref (am 11), .ref (am 12), .int 0, .int 0, .int 1, .null, .null, .int 0, .int 0, .int 0, .long 0, .int 0, .ref (am 13), .int 0, .int 0, .int 0, .ref (am 14), .ref (am 15), .ref (am 16), .ref (am 17), .int 0, .ref (am 18), .ref (am 19), .ref (am 20)]))]) sz) (gx_Pi (fun r => r = 0)) 0 0 gx_No := by
  refine gx_metP (y := yX7_isOne) (cc := cX7_isOne) (n := 2) (ret := (some .boolean)) (av := [.ref hm, .int v]) (by decide) (Nat.le_of_ble_eq_true rfl) ?_
  intro p e s m below meth c ls C hP hD hK hS hl
  obtain ⟨hx, hb, hr, hml, hown, hT, hlk, hin⟩ := id C
  have hown : s.vm.findClass RX7 = some m.cls := hown
  have hl : lv_has ls 2 [(0, .ref hm), (1, .int v)] := hl
  refine lv_iload_n hx hb dX7_isOne_0 rfl (lv_at hl 1 rfl) ?_
  refine lv_i2l (v := (v).toInt64) hx hb dX7_isOne_1 (rfl) ?_
  refine lv_lconst (v := 0) hx hb dX7_isOne_2 (by decide) ?_
  refine lv_aload_n hx hb dX7_isOne_3 rfl (lv_at hl 0 rfl) ?_
  refine va_get (D := D) (ci := 5) (v := .int 0) (C := RX7) (T := TX7) (N := 37) hx hb hT iw_TX7 hown hK.1 hP 0 rfl rfl 12 (by decide) (hT _ wd_942) (fun _ h9 => h9) rfl dX7_isOne_4 ?_
  refine lv_iconst (v := 1) hx hb dX7_isOne_7 (by decide) ?_
  refine lv_isub hx hb dX7_isOne_8 ?_
  refine gx_cst (v := (-1)) (by decide) ?_
  refine lv_i2l (v := (-1)) hx hb dX7_isOne_9 (by decide) ?_
  refine gx_pi hP hS (gx_runS (na := 3) (As := [.long ((v).toInt64), .long 0, .long (-1)]) (rest := []) C hl.1 hK (gx_subP (wc := ([] : va_W)) hP [] rfl) ((hD.sub (ws' := ([] : va_W)) [] (by decide) rfl).weaken (fun _ _ _ _ => trivial)) (m_in l D k v 0 (-1) 0 (-1) (by decide) (by decide) _) gS_RX7_82 (by decide +kernel) rfl rfl ⟨Nat.le_of_ble_eq_true rfl, Nat.le_of_ble_eq_true rfl⟩ rfl rfl (Nat.le_of_ble_eq_true rfl) dX7_isOne_10 ⟨Nat.le_of_ble_eq_true rfl, Nat.le_of_ble_eq_true rfl⟩) (fun r_2 H locs pc_1 hP hS => ?_)
  have oc_1 : r_2 = 1 ∧ gx_b v 0 (-1) = true ∨ r_2 = 0 ∧ gx_b v 0 (-1) = false := pc_1
  clear pc_1
  rcases oc_1 with ⟨rfl, c_1⟩ | ⟨rfl, c_1⟩
  · exact absurd c_1 (by first | decide | (rw [gx_bn]; decide) | simp [gx_bn])
  · exact gx_retPZ C hS rfl (rfl) dX7_isOne_13
set_option maxHeartbeats 4000000 in
set_option maxRecDepth 100000 in
theorem m_refuse2 (l : Launch) (D : va_G) (k : Nat → ClassId) (hm : Nat) (am : Nat → Nat) (t18 : Value) (t19 : Value) (stt : Int32) (sz : Nat) : Met l yX7_refuse (.code yX7_refuse cX7_refuse 2 (some .int) :: gx_T) ({ frames := 0, cells := 0, slots := 0, locals := 0 }) (gx_Pre D k [.ref hm, .int (-2)] ([(hm, .inr (5, [.ref (am 1), .ref (am 2), .ref (am 3), .ref (am 4), .ref (am 5), .ref (am 6), .ref (am 7), .ref (am 8), .int 0, .ref (am 9), .int 0, .ref (am 10), .int 0, .ref (am 11), .ref (am 12), .int 0, .int 0, .int 1, t18, t19, .int 0, .int 0, .int 0, .long 0, .int 0, .ref (am 13), .int stt, .int 0, .int 0, .ref (am 14), .ref (am 15), .ref (am 16), .ref (am 17), .int 0, .ref (am 18), .ref (am 19), .ref (am 20)])), ((am 9), .inl (k 0, 8, .inl (fun _ => 0)))]) sz) (gx_Qi D (fun (r : Int32) (u : Unit) => r = -2) (fun (u : Unit) => ([] : va_W)) (va_A ([(hm, .inr (5, [.ref (am 1), .ref (am 2), .ref (am 3), .ref (am 4), .ref (am 5), .ref (am 6), .ref (am 7), .ref (am 8), .int 0, .ref (am 9), .int 0, .ref (am 10), .int 0, .ref (am 11), .ref (am 12), .int 0, .int 0, .int 1, t18, t19, .int 0, .int 0, .int 0, .long 0, .int 0, .ref (am 13), .int stt, .int 0, .int 0, .ref (am 14), .ref (am 15), .ref (am 16), .ref (am 17), .int 0, .ref (am 18), .ref (am 19), .ref (am 20)])), ((am 9), .inl (k 0, 8, .inl (fun _ => 0)))]) sz)) 0 0 (va_A ([(hm, .inr (5, [.ref (am 1), .ref (am 2), .ref (am 3), .ref (am 4), .ref (am 5), .ref (am 6), .ref (am 7), .ref (am 8), .int 0, .ref (am 9), .int 0, .ref (am 10), .int 0, .ref (am 11), .ref (am 12), .int 0, .int 0, .int 1, t18, t19, .int 0, .int 0, .int 0, .long 0, .int 0, .ref (am 13), .int stt, .int 0, .int 0, .ref (am 14), .ref (am 15), .ref (am 16), .ref (am 17), .int 0, .ref (am 18), .ref (am 19), .ref (am 20)])), ((am 9), .inl (k 0, 8, .inl (fun _ => 0)))]) sz) := by
  refine gx_metE (Qc := fun A => gx_Qi D (fun (r : Int32) (u : Unit) => r = -2) (fun (u : Unit) => ([] : va_W)) A) (y := yX7_refuse) (cc := cX7_refuse) (n := 2) (ret := (some .int)) (av := [.ref hm, .int (-2)]) (by decide) (Nat.le_of_ble_eq_true rfl) ?_
  intro p e s m below meth c A ls C hA hP hD hK hS hl
  obtain ⟨hx, hb, hr, hml, hown, hT, hlk, hin⟩ := id C
  have hown : s.vm.findClass RX7 = some m.cls := hown
  have hl : lv_has ls 2 [(0, .ref hm), (1, .int (-2))] := hl
  refine lv_aload_n hx hb dX7_refuse_0 rfl (lv_at hl 0 rfl) ?_
  refine va_get (D := D) (ci := 5) (v := .ref (am 9)) (C := RX7) (T := TX7) (N := 37) hx hb hT iw_TX7 hown hK.1 hP 0 rfl rfl 9 (by decide) (hT _ wd_939) (fun _ h9 => h9) rfl dX7_refuse_1 ?_
  refine lv_iload_n hx hb dX7_refuse_4 rfl (lv_at hl 1 rfl) ?_
  refine lv_ineg hx hb dX7_refuse_5 ?_
  refine gx_cst (v := 2) (by decide) ?_
  refine lv_dup2_11 hx hb dX7_refuse_6 rfl rfl ?_
  refine va_iald hx hb hK.1 hP 1 0 rfl rfl (gx_vin rfl) dX7_refuse_7 ?_
  refine gx_cst (v := 0) (rfl) ?_
  refine lv_iconst (v := 1) hx hb dX7_refuse_8 (by decide) ?_
  refine lv_iadd hx hb dX7_refuse_9 ?_
  refine gx_cst (v := 1) (by decide) ?_
  refine va_iast hx hb hK.1 hP hD hS 1 0 rfl rfl (gx_vin rfl) dX7_refuse_10 (fun H locs hP hD hS => ?_)
  obtain ⟨f_1, ef_1⟩ : ∃ f9, f9 = upd ((fun _ => 0) : Nat → Int32) (2 : Int32).toNatClampNeg (1 : Int32) := ⟨_, rfl⟩
  have hP : va_P D gx_cl [(hm, .inr (5, [.ref (am 1), .ref (am 2), .ref (am 3), .ref (am 4), .ref (am 5), .ref (am 6), .ref (am 7), .ref (am 8), .int 0, .ref (am 9), .int 0, .ref (am 10), .int 0, .ref (am 11), .ref (am 12), .int 0, .int 0, .int 1, t18, t19, .int 0, .int 0, .int 0, .long 0, .int 0, .ref (am 13), .int stt, .int 0, .int 0, .ref (am 14), .ref (am 15), .ref (am 16), .ref (am 17), .int 0, .ref (am 18), .ref (am 19), .ref (am 20)])), ((am 9), .inl (k 0, 8, .inl f_1))] H := by subst ef_1; exact hP
  have hD : va_D A [(hm, .inr (5, [.ref (am 1), .ref (am 2), .ref (am 3), .ref (am 4), .ref (am 5), .ref (am 6), .ref (am 7), .ref (am 8), .int 0, .ref (am 9), .int 0, .ref (am 10), .int 0, .ref (am 11), .ref (am 12), .int 0, .int 0, .int 1, t18, t19, .int 0, .int 0, .int 0, .long 0, .int 0, .ref (am 13), .int stt, .int 0, .int 0, .ref (am 14), .ref (am 15), .ref (am 16), .ref (am 17), .int 0, .ref (am 18), .ref (am 19), .ref (am 20)])), ((am 9), .inl (k 0, 8, .inl f_1))] := by subst ef_1; exact hD
  refine lv_iload_n hx hb dX7_refuse_11 rfl (lv_at hl 1 rfl) ?_
  exact gx_retI C (u := ()) gx_nil gx_noneD hS (rfl) dX7_refuse_12
set_option maxHeartbeats 4000000 in
set_option maxRecDepth 100000 in
theorem m_refuse4 (l : Launch) (D : va_G) (k : Nat → ClassId) (hm : Nat) (am : Nat → Nat) (t18 : Value) (t19 : Value) (stt : Int32) (sz : Nat) : Met l yX7_refuse (.code yX7_refuse cX7_refuse 2 (some .int) :: gx_T) ({ frames := 0, cells := 0, slots := 0, locals := 0 }) (gx_Pre D k [.ref hm, .int (-4)] ([(hm, .inr (5, [.ref (am 1), .ref (am 2), .ref (am 3), .ref (am 4), .ref (am 5), .ref (am 6), .ref (am 7), .ref (am 8), .int 0, .ref (am 9), .int 0, .ref (am 10), .int 0, .ref (am 11), .ref (am 12), .int 0, .int 0, .int 1, t18, t19, .int 0, .int 0, .int 0, .long 0, .int 0, .ref (am 13), .int stt, .int 0, .int 0, .ref (am 14), .ref (am 15), .ref (am 16), .ref (am 17), .int 0, .ref (am 18), .ref (am 19), .ref (am 20)])), ((am 9), .inl (k 0, 8, .inl (fun _ => 0)))]) sz) (gx_Qi D (fun (r : Int32) (u : Unit) => r = -4) (fun (u : Unit) => ([] : va_W)) (va_A ([(hm, .inr (5, [.ref (am 1), .ref (am 2), .ref (am 3), .ref (am 4), .ref (am 5), .ref (am 6), .ref (am 7), .ref (am 8), .int 0, .ref (am 9), .int 0, .ref (am 10), .int 0, .ref (am 11), .ref (am 12), .int 0, .int 0, .int 1, t18, t19, .int 0, .int 0, .int 0, .long 0, .int 0, .ref (am 13), .int stt, .int 0, .int 0, .ref (am 14), .ref (am 15), .ref (am 16), .ref (am 17), .int 0, .ref (am 18), .ref (am 19), .ref (am 20)])), ((am 9), .inl (k 0, 8, .inl (fun _ => 0)))]) sz)) 0 0 (va_A ([(hm, .inr (5, [.ref (am 1), .ref (am 2), .ref (am 3), .ref (am 4), .ref (am 5), .ref (am 6), .ref (am 7), .ref (am 8), .int 0, .ref (am 9), .int 0, .ref (am 10), .int 0, .ref (am 11), .ref (am 12), .int 0, .int 0, .int 1, t18, t19, .int 0, .int 0, .int 0, .long 0, .int 0, .ref (am 13), .int stt, .int 0, .int 0, .ref (am 14), .ref (am 15), .ref (am 16), .ref (am 17), .int 0, .ref (am 18), .ref (am 19), .ref (am 20)])), ((am 9), .inl (k 0, 8, .inl (fun _ => 0)))]) sz) := by
  refine gx_metE (Qc := fun A => gx_Qi D (fun (r : Int32) (u : Unit) => r = -4) (fun (u : Unit) => ([] : va_W)) A) (y := yX7_refuse) (cc := cX7_refuse) (n := 2) (ret := (some .int)) (av := [.ref hm, .int (-4)]) (by decide) (Nat.le_of_ble_eq_true rfl) ?_
  intro p e s m below meth c A ls C hA hP hD hK hS hl
  obtain ⟨hx, hb, hr, hml, hown, hT, hlk, hin⟩ := id C
  have hown : s.vm.findClass RX7 = some m.cls := hown
  have hl : lv_has ls 2 [(0, .ref hm), (1, .int (-4))] := hl
  refine lv_aload_n hx hb dX7_refuse_0 rfl (lv_at hl 0 rfl) ?_
  refine va_get (D := D) (ci := 5) (v := .ref (am 9)) (C := RX7) (T := TX7) (N := 37) hx hb hT iw_TX7 hown hK.1 hP 0 rfl rfl 9 (by decide) (hT _ wd_939) (fun _ h9 => h9) rfl dX7_refuse_1 ?_
  refine lv_iload_n hx hb dX7_refuse_4 rfl (lv_at hl 1 rfl) ?_
  refine lv_ineg hx hb dX7_refuse_5 ?_
  refine gx_cst (v := 4) (by decide) ?_
  refine lv_dup2_11 hx hb dX7_refuse_6 rfl rfl ?_
  refine va_iald hx hb hK.1 hP 1 0 rfl rfl (gx_vin rfl) dX7_refuse_7 ?_
  refine gx_cst (v := 0) (rfl) ?_
  refine lv_iconst (v := 1) hx hb dX7_refuse_8 (by decide) ?_
  refine lv_iadd hx hb dX7_refuse_9 ?_
  refine gx_cst (v := 1) (by decide) ?_
  refine va_iast hx hb hK.1 hP hD hS 1 0 rfl rfl (gx_vin rfl) dX7_refuse_10 (fun H locs hP hD hS => ?_)
  obtain ⟨f_1, ef_1⟩ : ∃ f9, f9 = upd ((fun _ => 0) : Nat → Int32) (4 : Int32).toNatClampNeg (1 : Int32) := ⟨_, rfl⟩
  have hP : va_P D gx_cl [(hm, .inr (5, [.ref (am 1), .ref (am 2), .ref (am 3), .ref (am 4), .ref (am 5), .ref (am 6), .ref (am 7), .ref (am 8), .int 0, .ref (am 9), .int 0, .ref (am 10), .int 0, .ref (am 11), .ref (am 12), .int 0, .int 0, .int 1, t18, t19, .int 0, .int 0, .int 0, .long 0, .int 0, .ref (am 13), .int stt, .int 0, .int 0, .ref (am 14), .ref (am 15), .ref (am 16), .ref (am 17), .int 0, .ref (am 18), .ref (am 19), .ref (am 20)])), ((am 9), .inl (k 0, 8, .inl f_1))] H := by subst ef_1; exact hP
  have hD : va_D A [(hm, .inr (5, [.ref (am 1), .ref (am 2), .ref (am 3), .ref (am 4), .ref (am 5), .ref (am 6), .ref (am 7), .ref (am 8), .int 0, .ref (am 9), .int 0, .ref (am 10), .int 0, .ref (am 11), .ref (am 12), .int 0, .int 0, .int 1, t18, t19, .int 0, .int 0, .int 0, .long 0, .int 0, .ref (am 13), .int stt, .int 0, .int 0, .ref (am 14), .ref (am 15), .ref (am 16), .ref (am 17), .int 0, .ref (am 18), .ref (am 19), .ref (am 20)])), ((am 9), .inl (k 0, 8, .inl f_1))] := by subst ef_1; exact hD
  refine lv_iload_n hx hb dX7_refuse_11 rfl (lv_at hl 1 rfl) ?_
  exact gx_retI C (u := ()) gx_nil gx_noneD hS (rfl) dX7_refuse_12
set_option maxHeartbeats 4000000 in
set_option maxRecDepth 100000 in
theorem m_refuse5 (l : Launch) (D : va_G) (k : Nat → ClassId) (hm : Nat) (am : Nat → Nat) (t18 : Value) (t19 : Value) (stt : Int32) (sz : Nat) : Met l yX7_refuse (.code yX7_refuse cX7_refuse 2 (some .int) :: gx_T) ({ frames := 0, cells := 0, slots := 0, locals := 0 }) (gx_Pre D k [.ref hm, .int (-5)] ([(hm, .inr (5, [.ref (am 1), .ref (am 2), .ref (am 3), .ref (am 4), .ref (am 5), .ref (am 6), .ref (am 7), .ref (am 8), .int 0, .ref (am 9), .int 0, .ref (am 10), .int 0, .ref (am 11), .ref (am 12), .int 0, .int 0, .int 1, t18, t19, .int 0, .int 0, .int 0, .long 0, .int 0, .ref (am 13), .int stt, .int 0, .int 0, .ref (am 14), .ref (am 15), .ref (am 16), .ref (am 17), .int 0, .ref (am 18), .ref (am 19), .ref (am 20)])), ((am 9), .inl (k 0, 8, .inl (fun _ => 0)))]) sz) (gx_Qi D (fun (r : Int32) (u : Unit) => r = -5) (fun (u : Unit) => ([] : va_W)) (va_A ([(hm, .inr (5, [.ref (am 1), .ref (am 2), .ref (am 3), .ref (am 4), .ref (am 5), .ref (am 6), .ref (am 7), .ref (am 8), .int 0, .ref (am 9), .int 0, .ref (am 10), .int 0, .ref (am 11), .ref (am 12), .int 0, .int 0, .int 1, t18, t19, .int 0, .int 0, .int 0, .long 0, .int 0, .ref (am 13), .int stt, .int 0, .int 0, .ref (am 14), .ref (am 15), .ref (am 16), .ref (am 17), .int 0, .ref (am 18), .ref (am 19), .ref (am 20)])), ((am 9), .inl (k 0, 8, .inl (fun _ => 0)))]) sz)) 0 0 (va_A ([(hm, .inr (5, [.ref (am 1), .ref (am 2), .ref (am 3), .ref (am 4), .ref (am 5), .ref (am 6), .ref (am 7), .ref (am 8), .int 0, .ref (am 9), .int 0, .ref (am 10), .int 0, .ref (am 11), .ref (am 12), .int 0, .int 0, .int 1, t18, t19, .int 0, .int 0, .int 0, .long 0, .int 0, .ref (am 13), .int stt, .int 0, .int 0, .ref (am 14), .ref (am 15), .ref (am 16), .ref (am 17), .int 0, .ref (am 18), .ref (am 19), .ref (am 20)])), ((am 9), .inl (k 0, 8, .inl (fun _ => 0)))]) sz) := by
  refine gx_metE (Qc := fun A => gx_Qi D (fun (r : Int32) (u : Unit) => r = -5) (fun (u : Unit) => ([] : va_W)) A) (y := yX7_refuse) (cc := cX7_refuse) (n := 2) (ret := (some .int)) (av := [.ref hm, .int (-5)]) (by decide) (Nat.le_of_ble_eq_true rfl) ?_
  intro p e s m below meth c A ls C hA hP hD hK hS hl
  obtain ⟨hx, hb, hr, hml, hown, hT, hlk, hin⟩ := id C
  have hown : s.vm.findClass RX7 = some m.cls := hown
  have hl : lv_has ls 2 [(0, .ref hm), (1, .int (-5))] := hl
  refine lv_aload_n hx hb dX7_refuse_0 rfl (lv_at hl 0 rfl) ?_
  refine va_get (D := D) (ci := 5) (v := .ref (am 9)) (C := RX7) (T := TX7) (N := 37) hx hb hT iw_TX7 hown hK.1 hP 0 rfl rfl 9 (by decide) (hT _ wd_939) (fun _ h9 => h9) rfl dX7_refuse_1 ?_
  refine lv_iload_n hx hb dX7_refuse_4 rfl (lv_at hl 1 rfl) ?_
  refine lv_ineg hx hb dX7_refuse_5 ?_
  refine gx_cst (v := 5) (by decide) ?_
  refine lv_dup2_11 hx hb dX7_refuse_6 rfl rfl ?_
  refine va_iald hx hb hK.1 hP 1 0 rfl rfl (gx_vin rfl) dX7_refuse_7 ?_
  refine gx_cst (v := 0) (rfl) ?_
  refine lv_iconst (v := 1) hx hb dX7_refuse_8 (by decide) ?_
  refine lv_iadd hx hb dX7_refuse_9 ?_
  refine gx_cst (v := 1) (by decide) ?_
  refine va_iast hx hb hK.1 hP hD hS 1 0 rfl rfl (gx_vin rfl) dX7_refuse_10 (fun H locs hP hD hS => ?_)
  obtain ⟨f_1, ef_1⟩ : ∃ f9, f9 = upd ((fun _ => 0) : Nat → Int32) (5 : Int32).toNatClampNeg (1 : Int32) := ⟨_, rfl⟩
  have hP : va_P D gx_cl [(hm, .inr (5, [.ref (am 1), .ref (am 2), .ref (am 3), .ref (am 4), .ref (am 5), .ref (am 6), .ref (am 7), .ref (am 8), .int 0, .ref (am 9), .int 0, .ref (am 10), .int 0, .ref (am 11), .ref (am 12), .int 0, .int 0, .int 1, t18, t19, .int 0, .int 0, .int 0, .long 0, .int 0, .ref (am 13), .int stt, .int 0, .int 0, .ref (am 14), .ref (am 15), .ref (am 16), .ref (am 17), .int 0, .ref (am 18), .ref (am 19), .ref (am 20)])), ((am 9), .inl (k 0, 8, .inl f_1))] H := by subst ef_1; exact hP
  have hD : va_D A [(hm, .inr (5, [.ref (am 1), .ref (am 2), .ref (am 3), .ref (am 4), .ref (am 5), .ref (am 6), .ref (am 7), .ref (am 8), .int 0, .ref (am 9), .int 0, .ref (am 10), .int 0, .ref (am 11), .ref (am 12), .int 0, .int 0, .int 1, t18, t19, .int 0, .int 0, .int 0, .long 0, .int 0, .ref (am 13), .int stt, .int 0, .int 0, .ref (am 14), .ref (am 15), .ref (am 16), .ref (am 17), .int 0, .ref (am 18), .ref (am 19), .ref (am 20)])), ((am 9), .inl (k 0, 8, .inl f_1))] := by subst ef_1; exact hD
  refine lv_iload_n hx hb dX7_refuse_11 rfl (lv_at hl 1 rfl) ?_
  exact gx_retI C (u := ()) gx_nil gx_noneD hS (rfl) dX7_refuse_12
set_option maxHeartbeats 4000000 in
set_option maxRecDepth 100000 in
theorem m_noRow (l : Launch) (D : va_G) (k : Nat → ClassId) (hm : Nat) (am : Nat → Nat) (v : Int32) (sz : Nat) : Met l yX7_noRow (.code yX7_noRow cX7_noRow 2 (some .int) :: gx_T) ({ frames := 1, cells := 0, slots := 0, locals := 25 }) (gx_Pre D k [.ref hm, .int v] ([(hm, .inr (5, [.ref (am 1), .ref (am 2), .ref (am 3), .ref (am 4), .ref (am 5), .ref (am 6), .ref (am 7), .ref (am 8), .int 0, .ref (am 9), .int 0, .ref (am 10), .int 0, .ref (am 11), .ref (am 12), .int 0, .int 0, .int 1, .null, .null, .int 0, .int 0, .int 0, .long 0, .int 0, .ref (am 13), .int 0, .int 0, .int 0, .ref (am 14), .ref (am 15), .ref (am 16), .ref (am 17), .int 0, .ref (am 18), .ref (am 19), .ref (am 20)])), ((am 9), .inl (k 0, 8, .inl (fun _ => 0))), ((am 1), .inl (k 0, 8, .inl (fun _ => 0)))]) sz) (gx_Qi D (fun (r : Int32) (u : Unit) => r = -4 ∧ gx_b v 0 7 = true ∨ r = -2 ∧ gx_b v 0 7 = false) (fun (u : Unit) => ([] : va_W)) (va_A ([(hm, .inr (5, [.ref (am 1), .ref (am 2), .ref (am 3), .ref (am 4), .ref (am 5), .ref (am 6), .ref (am 7), .ref (am 8), .int 0, .ref (am 9), .int 0, .ref (am 10), .int 0, .ref (am 11), .ref (am 12), .int 0, .int 0, .int 1, .null, .null, .int 0, .int 0, .int 0, .long 0, .int 0, .ref (am 13), .int 0, .int 0, .int 0, .ref (am 14), .ref (am 15), .ref (am 16), .ref (am 17), .int 0, .ref (am 18), .ref (am 19), .ref (am 20)])), ((am 9), .inl (k 0, 8, .inl (fun _ => 0))), ((am 1), .inl (k 0, 8, .inl (fun _ => 0)))]) sz)) 0 0 (va_A ([(hm, .inr (5, [.ref (am 1), .ref (am 2), .ref (am 3), .ref (am 4), .ref (am 5), .ref (am 6), .ref (am 7), .ref (am 8), .int 0, .ref (am 9), .int 0, .ref (am 10), .int 0, .ref (am 11), .ref (am 12), .int 0, .int 0, .int 1, .null, .null, .int 0, .int 0, .int 0, .long 0, .int 0, .ref (am 13), .int 0, .int 0, .int 0, .ref (am 14), .ref (am 15), .ref (am 16), .ref (am 17), .int 0, .ref (am 18), .ref (am 19), .ref (am 20)])), ((am 9), .inl (k 0, 8, .inl (fun _ => 0))), ((am 1), .inl (k 0, 8, .inl (fun _ => 0)))]) sz) := by
  refine gx_metE (Qc := fun A => gx_Qi D (fun (r : Int32) (u : Unit) => r = -4 ∧ gx_b v 0 7 = true ∨ r = -2 ∧ gx_b v 0 7 = false) (fun (u : Unit) => ([] : va_W)) A) (y := yX7_noRow) (cc := cX7_noRow) (n := 2) (ret := (some .int)) (av := [.ref hm, .int v]) (by decide) (Nat.le_of_ble_eq_true rfl) ?_
  intro p e s m below meth c A ls C hA hP hD hK hS hl
  obtain ⟨hx, hb, hr, hml, hown, hT, hlk, hin⟩ := id C
  have hown : s.vm.findClass RX7 = some m.cls := hown
  have hl : lv_has ls 2 [(0, .ref hm), (1, .int v)] := hl
  refine lv_iload_n hx hb dX7_noRow_0 rfl (lv_at hl 1 rfl) ?_
  refine lv_i2l (v := (v).toInt64) hx hb dX7_noRow_1 (rfl) ?_
  refine lv_lconst (v := 0) hx hb dX7_noRow_2 (by decide) ?_
  refine lv_ldc2 (v := 7) hx hb hown (hT _ wd_1046) dX7_noRow_3 ?_
  refine gx_pi hP hS (gx_runS (na := 3) (As := [.long ((v).toInt64), .long 0, .long 7]) (rest := []) C hl.1 hK (gx_subP (wc := ([] : va_W)) hP [] rfl) ((hD.sub (ws' := ([] : va_W)) [] (by decide) rfl).weaken (fun _ _ _ _ => trivial)) (m_in l D k v 0 7 0 7 (by decide) (by decide) _) gS_RX7_82 (by decide +kernel) rfl rfl ⟨Nat.le_of_ble_eq_true rfl, Nat.le_of_ble_eq_true rfl⟩ rfl rfl (Nat.le_of_ble_eq_true rfl) dX7_noRow_6 ⟨Nat.le_of_ble_eq_true rfl, Nat.le_of_ble_eq_true rfl⟩) (fun r_2 H locs pc_1 hP hS => ?_)
  have oc_1 : r_2 = 1 ∧ gx_b v 0 7 = true ∨ r_2 = 0 ∧ gx_b v 0 7 = false := pc_1
  clear pc_1
  rcases oc_1 with ⟨rfl, c_1⟩ | ⟨rfl, c_1⟩
  · refine lv_if_ne (tgt := 19) hx hb dX7_noRow_9 (by decide) (fun c_3 => ?_) (fun c_3 => absurd c_3 (by decide))
    refine lv_aload_n hx hb dX7_noRow_19 rfl (lv_at hl 0 rfl) ?_
    refine va_get (D := D) (ci := 5) (v := .ref (am 1)) (C := RX7) (T := TX7) (N := 37) hx hb hT iw_TX7 hown hK.1 hP 0 rfl rfl 0 (by decide) (hT _ wd_930) (fun _ h9 => h9) rfl dX7_noRow_20 ?_
    refine lv_iload_n hx hb dX7_noRow_23 rfl (lv_at hl 1 rfl) ?_
    refine va_iald hx hb hK.1 hP 2 0 rfl rfl (gx_vb c_1 (by decide) (by decide)) dX7_noRow_24 ?_
    refine gx_cst (v := 0) (rfl) ?_
    refine lv_iconst (v := 2) hx hb dX7_noRow_25 (by decide) ?_
    refine lv_icmp_ne (tgt := 36) hx hb dX7_noRow_26 (by decide) (fun c_4 => ?_) (fun c_4 => absurd c_4 (by decide))
    refine lv_aload_n hx hb dX7_noRow_36 rfl (lv_at hl 0 rfl) ?_
    refine va_get (D := D) (ci := 5) (v := .ref (am 1)) (C := RX7) (T := TX7) (N := 37) hx hb hT iw_TX7 hown hK.1 hP 0 rfl rfl 0 (by decide) (hT _ wd_930) (fun _ h9 => h9) rfl dX7_noRow_37 ?_
    refine lv_iload_n hx hb dX7_noRow_40 rfl (lv_at hl 1 rfl) ?_
    refine va_iald hx hb hK.1 hP 2 0 rfl rfl (gx_vb c_1 (by decide) (by decide)) dX7_noRow_41 ?_
    refine gx_cst (v := 0) (rfl) ?_
    refine lv_if_ne (tgt := 54) hx hb dX7_noRow_42 (by decide) (fun c_5 => absurd (by decide) c_5) (fun c_5 => ?_)
    refine lv_aload_n hx hb dX7_noRow_45 rfl (lv_at hl 0 rfl) ?_
    refine lv_bipush (v := (-4)) hx hb dX7_noRow_46 (by decide) ?_
    refine gx_ei (wc := ([(hm, .inr (5, [.ref (am 1), .ref (am 2), .ref (am 3), .ref (am 4), .ref (am 5), .ref (am 6), .ref (am 7), .ref (am 8), .int 0, .ref (am 9), .int 0, .ref (am 10), .int 0, .ref (am 11), .ref (am 12), .int 0, .int 0, .int 1, .null, .null, .int 0, .int 0, .int 0, .long 0, .int 0, .ref (am 13), .int 0, .int 0, .int 0, .ref (am 14), .ref (am 15), .ref (am 16), .ref (am 17), .int 0, .ref (am 18), .ref (am 19), .ref (am 20)])), ((am 9), .inl (k 0, 8, .inl (fun _ => 0)))] : va_W)) (wr := [((am 1), .inl (k 0, 8, .inl (fun _ => 0)))]) (isC := [0, 1]) (isR := [2]) hP hD hS hA rfl rfl (by decide) (by decide) (gx_runV (na := 1) (As := [.int (-4)]) (rest := []) (ci := 5) C hl.1 hK (gx_subP (wc := ([(hm, .inr (5, [.ref (am 1), .ref (am 2), .ref (am 3), .ref (am 4), .ref (am 5), .ref (am 6), .ref (am 7), .ref (am 8), .int 0, .ref (am 9), .int 0, .ref (am 10), .int 0, .ref (am 11), .ref (am 12), .int 0, .int 0, .int 1, .null, .null, .int 0, .int 0, .int 0, .long 0, .int 0, .ref (am 13), .int 0, .int 0, .int 0, .ref (am 14), .ref (am 15), .ref (am 16), .ref (am 17), .int 0, .ref (am 18), .ref (am 19), .ref (am 20)])), ((am 9), .inl (k 0, 8, .inl (fun _ => 0)))] : va_W)) hP [0, 1] rfl) ((hD.sub (ws' := ([(hm, .inr (5, [.ref (am 1), .ref (am 2), .ref (am 3), .ref (am 4), .ref (am 5), .ref (am 6), .ref (am 7), .ref (am 8), .int 0, .ref (am 9), .int 0, .ref (am 10), .int 0, .ref (am 11), .ref (am 12), .int 0, .int 0, .int 1, .null, .null, .int 0, .int 0, .int 0, .long 0, .int 0, .ref (am 13), .int 0, .int 0, .int 0, .ref (am 14), .ref (am 15), .ref (am 16), .ref (am 17), .int 0, .ref (am 18), .ref (am 19), .ref (am 20)])), ((am 9), .inl (k 0, 8, .inl (fun _ => 0)))] : va_W)) [0, 1] (by decide) rfl).weaken (fun _ _ _ _ => trivial)) (m_refuse4 l D k hm am .null .null 0 _) gV_RX7_95 (by decide +kernel) rfl rfl ⟨Nat.le_of_ble_eq_true rfl, Nat.le_of_ble_eq_true rfl⟩ rfl rfl rfl rfl (Nat.le_of_ble_eq_true rfl) dX7_noRow_48 ⟨Nat.le_of_ble_eq_true rfl, Nat.le_of_ble_eq_true rfl⟩) (fun r_8 u_6 H locs h_7 hP hD hS => ?_)
    have h_7 : r_8 = -4 := h_7
    have hP : va_P D gx_cl [((am 1), .inl (k 0, 8, .inl (fun _ => 0)))] H := hP
    have hD : va_D A [((am 1), .inl (k 0, 8, .inl (fun _ => 0)))] := hD
    have eh_7 := h_7
    subst eh_7
    refine lv_goto (tgt := 55) hx hb dX7_noRow_51 (by decide) ?_
    exact gx_retI C (u := ()) gx_nil gx_noneD hS (Or.inl ⟨rfl, c_1⟩) dX7_noRow_55
  · refine lv_if_ne (tgt := 19) hx hb dX7_noRow_9 (by decide) (fun c_10 => absurd (by decide) c_10) (fun c_10 => ?_)
    refine lv_aload_n hx hb dX7_noRow_12 rfl (lv_at hl 0 rfl) ?_
    refine lv_bipush (v := (-2)) hx hb dX7_noRow_13 (by decide) ?_
    refine gx_ei (wc := ([(hm, .inr (5, [.ref (am 1), .ref (am 2), .ref (am 3), .ref (am 4), .ref (am 5), .ref (am 6), .ref (am 7), .ref (am 8), .int 0, .ref (am 9), .int 0, .ref (am 10), .int 0, .ref (am 11), .ref (am 12), .int 0, .int 0, .int 1, .null, .null, .int 0, .int 0, .int 0, .long 0, .int 0, .ref (am 13), .int 0, .int 0, .int 0, .ref (am 14), .ref (am 15), .ref (am 16), .ref (am 17), .int 0, .ref (am 18), .ref (am 19), .ref (am 20)])), ((am 9), .inl (k 0, 8, .inl (fun _ => 0)))] : va_W)) (wr := [((am 1), .inl (k 0, 8, .inl (fun _ => 0)))]) (isC := [0, 1]) (isR := [2]) hP hD hS hA rfl rfl (by decide) (by decide) (gx_runV (na := 1) (As := [.int (-2)]) (rest := []) (ci := 5) C hl.1 hK (gx_subP (wc := ([(hm, .inr (5, [.ref (am 1), .ref (am 2), .ref (am 3), .ref (am 4), .ref (am 5), .ref (am 6), .ref (am 7), .ref (am 8), .int 0, .ref (am 9), .int 0, .ref (am 10), .int 0, .ref (am 11), .ref (am 12), .int 0, .int 0, .int 1, .null, .null, .int 0, .int 0, .int 0, .long 0, .int 0, .ref (am 13), .int 0, .int 0, .int 0, .ref (am 14), .ref (am 15), .ref (am 16), .ref (am 17), .int 0, .ref (am 18), .ref (am 19), .ref (am 20)])), ((am 9), .inl (k 0, 8, .inl (fun _ => 0)))] : va_W)) hP [0, 1] rfl) ((hD.sub (ws' := ([(hm, .inr (5, [.ref (am 1), .ref (am 2), .ref (am 3), .ref (am 4), .ref (am 5), .ref (am 6), .ref (am 7), .ref (am 8), .int 0, .ref (am 9), .int 0, .ref (am 10), .int 0, .ref (am 11), .ref (am 12), .int 0, .int 0, .int 1, .null, .null, .int 0, .int 0, .int 0, .long 0, .int 0, .ref (am 13), .int 0, .int 0, .int 0, .ref (am 14), .ref (am 15), .ref (am 16), .ref (am 17), .int 0, .ref (am 18), .ref (am 19), .ref (am 20)])), ((am 9), .inl (k 0, 8, .inl (fun _ => 0)))] : va_W)) [0, 1] (by decide) rfl).weaken (fun _ _ _ _ => trivial)) (m_refuse2 l D k hm am .null .null 0 _) gV_RX7_95 (by decide +kernel) rfl rfl ⟨Nat.le_of_ble_eq_true rfl, Nat.le_of_ble_eq_true rfl⟩ rfl rfl rfl rfl (Nat.le_of_ble_eq_true rfl) dX7_noRow_15 ⟨Nat.le_of_ble_eq_true rfl, Nat.le_of_ble_eq_true rfl⟩) (fun r_13 u_11 H locs h_12 hP hD hS => ?_)
    have h_12 : r_13 = -2 := h_12
    have hP : va_P D gx_cl [((am 1), .inl (k 0, 8, .inl (fun _ => 0)))] H := hP
    have hD : va_D A [((am 1), .inl (k 0, 8, .inl (fun _ => 0)))] := hD
    have eh_12 := h_12
    subst eh_12
    exact gx_retI C (u := ()) gx_nil gx_noneD hS (Or.inr ⟨rfl, c_1⟩) dX7_noRow_18
set_option maxHeartbeats 4000000 in
set_option maxRecDepth 100000 in
theorem m_noRule (l : Launch) (D : va_G) (k : Nat → ClassId) (hm : Nat) (am : Nat → Nat) (v : Int32) (sz : Nat) : Met l yX7_noRule (.code yX7_noRule cX7_noRule 2 (some .int) :: gx_T) ({ frames := 1, cells := 0, slots := 0, locals := 25 }) (gx_Pre D k [.ref hm, .int v] ([(hm, .inr (5, [.ref (am 1), .ref (am 2), .ref (am 3), .ref (am 4), .ref (am 5), .ref (am 6), .ref (am 7), .ref (am 8), .int 0, .ref (am 9), .int 0, .ref (am 10), .int 0, .ref (am 11), .ref (am 12), .int 0, .int 0, .int 1, .null, .null, .int 0, .int 0, .int 0, .long 0, .int 0, .ref (am 13), .int 0, .int 0, .int 0, .ref (am 14), .ref (am 15), .ref (am 16), .ref (am 17), .int 0, .ref (am 18), .ref (am 19), .ref (am 20)])), ((am 9), .inl (k 0, 8, .inl (fun _ => 0))), ((am 1), .inl (k 0, 8, .inl (fun _ => 0)))]) sz) (gx_Qi D (fun (r : Int32) (u : Unit) => r = -4 ∧ gx_b v 0 7 = true ∨ r = -2 ∧ gx_b v 0 7 = false) (fun (u : Unit) => ([] : va_W)) (va_A ([(hm, .inr (5, [.ref (am 1), .ref (am 2), .ref (am 3), .ref (am 4), .ref (am 5), .ref (am 6), .ref (am 7), .ref (am 8), .int 0, .ref (am 9), .int 0, .ref (am 10), .int 0, .ref (am 11), .ref (am 12), .int 0, .int 0, .int 1, .null, .null, .int 0, .int 0, .int 0, .long 0, .int 0, .ref (am 13), .int 0, .int 0, .int 0, .ref (am 14), .ref (am 15), .ref (am 16), .ref (am 17), .int 0, .ref (am 18), .ref (am 19), .ref (am 20)])), ((am 9), .inl (k 0, 8, .inl (fun _ => 0))), ((am 1), .inl (k 0, 8, .inl (fun _ => 0)))]) sz)) 0 0 (va_A ([(hm, .inr (5, [.ref (am 1), .ref (am 2), .ref (am 3), .ref (am 4), .ref (am 5), .ref (am 6), .ref (am 7), .ref (am 8), .int 0, .ref (am 9), .int 0, .ref (am 10), .int 0, .ref (am 11), .ref (am 12), .int 0, .int 0, .int 1, .null, .null, .int 0, .int 0, .int 0, .long 0, .int 0, .ref (am 13), .int 0, .int 0, .int 0, .ref (am 14), .ref (am 15), .ref (am 16), .ref (am 17), .int 0, .ref (am 18), .ref (am 19), .ref (am 20)])), ((am 9), .inl (k 0, 8, .inl (fun _ => 0))), ((am 1), .inl (k 0, 8, .inl (fun _ => 0)))]) sz) := by
  refine gx_metE (Qc := fun A => gx_Qi D (fun (r : Int32) (u : Unit) => r = -4 ∧ gx_b v 0 7 = true ∨ r = -2 ∧ gx_b v 0 7 = false) (fun (u : Unit) => ([] : va_W)) A) (y := yX7_noRule) (cc := cX7_noRule) (n := 2) (ret := (some .int)) (av := [.ref hm, .int v]) (by decide) (Nat.le_of_ble_eq_true rfl) ?_
  intro p e s m below meth c A ls C hA hP hD hK hS hl
  obtain ⟨hx, hb, hr, hml, hown, hT, hlk, hin⟩ := id C
  have hown : s.vm.findClass RX7 = some m.cls := hown
  have hl : lv_has ls 2 [(0, .ref hm), (1, .int v)] := hl
  refine lv_iload_n hx hb dX7_noRule_0 rfl (lv_at hl 1 rfl) ?_
  refine lv_i2l (v := (v).toInt64) hx hb dX7_noRule_1 (rfl) ?_
  refine lv_lconst (v := 0) hx hb dX7_noRule_2 (by decide) ?_
  refine lv_ldc2 (v := 7) hx hb hown (hT _ wd_1046) dX7_noRule_3 ?_
  refine gx_pi hP hS (gx_runS (na := 3) (As := [.long ((v).toInt64), .long 0, .long 7]) (rest := []) C hl.1 hK (gx_subP (wc := ([] : va_W)) hP [] rfl) ((hD.sub (ws' := ([] : va_W)) [] (by decide) rfl).weaken (fun _ _ _ _ => trivial)) (m_in l D k v 0 7 0 7 (by decide) (by decide) _) gS_RX7_82 (by decide +kernel) rfl rfl ⟨Nat.le_of_ble_eq_true rfl, Nat.le_of_ble_eq_true rfl⟩ rfl rfl (Nat.le_of_ble_eq_true rfl) dX7_noRule_6 ⟨Nat.le_of_ble_eq_true rfl, Nat.le_of_ble_eq_true rfl⟩) (fun r_2 H locs pc_1 hP hS => ?_)
  have oc_1 : r_2 = 1 ∧ gx_b v 0 7 = true ∨ r_2 = 0 ∧ gx_b v 0 7 = false := pc_1
  clear pc_1
  rcases oc_1 with ⟨rfl, c_1⟩ | ⟨rfl, c_1⟩
  · refine lv_if_ne (tgt := 19) hx hb dX7_noRule_9 (by decide) (fun c_3 => ?_) (fun c_3 => absurd c_3 (by decide))
    refine lv_aload_n hx hb dX7_noRule_19 rfl (lv_at hl 0 rfl) ?_
    refine va_get (D := D) (ci := 5) (v := .ref (am 1)) (C := RX7) (T := TX7) (N := 37) hx hb hT iw_TX7 hown hK.1 hP 0 rfl rfl 0 (by decide) (hT _ wd_930) (fun _ h9 => h9) rfl dX7_noRule_20 ?_
    refine lv_iload_n hx hb dX7_noRule_23 rfl (lv_at hl 1 rfl) ?_
    refine va_iald hx hb hK.1 hP 2 0 rfl rfl (gx_vb c_1 (by decide) (by decide)) dX7_noRule_24 ?_
    refine gx_cst (v := 0) (rfl) ?_
    refine lv_iconst (v := 1) hx hb dX7_noRule_25 (by decide) ?_
    refine lv_icmp_ne (tgt := 36) hx hb dX7_noRule_26 (by decide) (fun c_4 => ?_) (fun c_4 => absurd c_4 (by decide))
    refine lv_aload_n hx hb dX7_noRule_36 rfl (lv_at hl 0 rfl) ?_
    refine va_get (D := D) (ci := 5) (v := .ref (am 1)) (C := RX7) (T := TX7) (N := 37) hx hb hT iw_TX7 hown hK.1 hP 0 rfl rfl 0 (by decide) (hT _ wd_930) (fun _ h9 => h9) rfl dX7_noRule_37 ?_
    refine lv_iload_n hx hb dX7_noRule_40 rfl (lv_at hl 1 rfl) ?_
    refine va_iald hx hb hK.1 hP 2 0 rfl rfl (gx_vb c_1 (by decide) (by decide)) dX7_noRule_41 ?_
    refine gx_cst (v := 0) (rfl) ?_
    refine lv_if_ne (tgt := 54) hx hb dX7_noRule_42 (by decide) (fun c_5 => absurd (by decide) c_5) (fun c_5 => ?_)
    refine lv_aload_n hx hb dX7_noRule_45 rfl (lv_at hl 0 rfl) ?_
    refine lv_bipush (v := (-4)) hx hb dX7_noRule_46 (by decide) ?_
    refine gx_ei (wc := ([(hm, .inr (5, [.ref (am 1), .ref (am 2), .ref (am 3), .ref (am 4), .ref (am 5), .ref (am 6), .ref (am 7), .ref (am 8), .int 0, .ref (am 9), .int 0, .ref (am 10), .int 0, .ref (am 11), .ref (am 12), .int 0, .int 0, .int 1, .null, .null, .int 0, .int 0, .int 0, .long 0, .int 0, .ref (am 13), .int 0, .int 0, .int 0, .ref (am 14), .ref (am 15), .ref (am 16), .ref (am 17), .int 0, .ref (am 18), .ref (am 19), .ref (am 20)])), ((am 9), .inl (k 0, 8, .inl (fun _ => 0)))] : va_W)) (wr := [((am 1), .inl (k 0, 8, .inl (fun _ => 0)))]) (isC := [0, 1]) (isR := [2]) hP hD hS hA rfl rfl (by decide) (by decide) (gx_runV (na := 1) (As := [.int (-4)]) (rest := []) (ci := 5) C hl.1 hK (gx_subP (wc := ([(hm, .inr (5, [.ref (am 1), .ref (am 2), .ref (am 3), .ref (am 4), .ref (am 5), .ref (am 6), .ref (am 7), .ref (am 8), .int 0, .ref (am 9), .int 0, .ref (am 10), .int 0, .ref (am 11), .ref (am 12), .int 0, .int 0, .int 1, .null, .null, .int 0, .int 0, .int 0, .long 0, .int 0, .ref (am 13), .int 0, .int 0, .int 0, .ref (am 14), .ref (am 15), .ref (am 16), .ref (am 17), .int 0, .ref (am 18), .ref (am 19), .ref (am 20)])), ((am 9), .inl (k 0, 8, .inl (fun _ => 0)))] : va_W)) hP [0, 1] rfl) ((hD.sub (ws' := ([(hm, .inr (5, [.ref (am 1), .ref (am 2), .ref (am 3), .ref (am 4), .ref (am 5), .ref (am 6), .ref (am 7), .ref (am 8), .int 0, .ref (am 9), .int 0, .ref (am 10), .int 0, .ref (am 11), .ref (am 12), .int 0, .int 0, .int 1, .null, .null, .int 0, .int 0, .int 0, .long 0, .int 0, .ref (am 13), .int 0, .int 0, .int 0, .ref (am 14), .ref (am 15), .ref (am 16), .ref (am 17), .int 0, .ref (am 18), .ref (am 19), .ref (am 20)])), ((am 9), .inl (k 0, 8, .inl (fun _ => 0)))] : va_W)) [0, 1] (by decide) rfl).weaken (fun _ _ _ _ => trivial)) (m_refuse4 l D k hm am .null .null 0 _) gV_RX7_95 (by decide +kernel) rfl rfl ⟨Nat.le_of_ble_eq_true rfl, Nat.le_of_ble_eq_true rfl⟩ rfl rfl rfl rfl (Nat.le_of_ble_eq_true rfl) dX7_noRule_48 ⟨Nat.le_of_ble_eq_true rfl, Nat.le_of_ble_eq_true rfl⟩) (fun r_8 u_6 H locs h_7 hP hD hS => ?_)
    have h_7 : r_8 = -4 := h_7
    have hP : va_P D gx_cl [((am 1), .inl (k 0, 8, .inl (fun _ => 0)))] H := hP
    have hD : va_D A [((am 1), .inl (k 0, 8, .inl (fun _ => 0)))] := hD
    have eh_7 := h_7
    subst eh_7
    refine lv_goto (tgt := 55) hx hb dX7_noRule_51 (by decide) ?_
    exact gx_retI C (u := ()) gx_nil gx_noneD hS (Or.inl ⟨rfl, c_1⟩) dX7_noRule_55
  · refine lv_if_ne (tgt := 19) hx hb dX7_noRule_9 (by decide) (fun c_10 => absurd (by decide) c_10) (fun c_10 => ?_)
    refine lv_aload_n hx hb dX7_noRule_12 rfl (lv_at hl 0 rfl) ?_
    refine lv_bipush (v := (-2)) hx hb dX7_noRule_13 (by decide) ?_
    refine gx_ei (wc := ([(hm, .inr (5, [.ref (am 1), .ref (am 2), .ref (am 3), .ref (am 4), .ref (am 5), .ref (am 6), .ref (am 7), .ref (am 8), .int 0, .ref (am 9), .int 0, .ref (am 10), .int 0, .ref (am 11), .ref (am 12), .int 0, .int 0, .int 1, .null, .null, .int 0, .int 0, .int 0, .long 0, .int 0, .ref (am 13), .int 0, .int 0, .int 0, .ref (am 14), .ref (am 15), .ref (am 16), .ref (am 17), .int 0, .ref (am 18), .ref (am 19), .ref (am 20)])), ((am 9), .inl (k 0, 8, .inl (fun _ => 0)))] : va_W)) (wr := [((am 1), .inl (k 0, 8, .inl (fun _ => 0)))]) (isC := [0, 1]) (isR := [2]) hP hD hS hA rfl rfl (by decide) (by decide) (gx_runV (na := 1) (As := [.int (-2)]) (rest := []) (ci := 5) C hl.1 hK (gx_subP (wc := ([(hm, .inr (5, [.ref (am 1), .ref (am 2), .ref (am 3), .ref (am 4), .ref (am 5), .ref (am 6), .ref (am 7), .ref (am 8), .int 0, .ref (am 9), .int 0, .ref (am 10), .int 0, .ref (am 11), .ref (am 12), .int 0, .int 0, .int 1, .null, .null, .int 0, .int 0, .int 0, .long 0, .int 0, .ref (am 13), .int 0, .int 0, .int 0, .ref (am 14), .ref (am 15), .ref (am 16), .ref (am 17), .int 0, .ref (am 18), .ref (am 19), .ref (am 20)])), ((am 9), .inl (k 0, 8, .inl (fun _ => 0)))] : va_W)) hP [0, 1] rfl) ((hD.sub (ws' := ([(hm, .inr (5, [.ref (am 1), .ref (am 2), .ref (am 3), .ref (am 4), .ref (am 5), .ref (am 6), .ref (am 7), .ref (am 8), .int 0, .ref (am 9), .int 0, .ref (am 10), .int 0, .ref (am 11), .ref (am 12), .int 0, .int 0, .int 1, .null, .null, .int 0, .int 0, .int 0, .long 0, .int 0, .ref (am 13), .int 0, .int 0, .int 0, .ref (am 14), .ref (am 15), .ref (am 16), .ref (am 17), .int 0, .ref (am 18), .ref (am 19), .ref (am 20)])), ((am 9), .inl (k 0, 8, .inl (fun _ => 0)))] : va_W)) [0, 1] (by decide) rfl).weaken (fun _ _ _ _ => trivial)) (m_refuse2 l D k hm am .null .null 0 _) gV_RX7_95 (by decide +kernel) rfl rfl ⟨Nat.le_of_ble_eq_true rfl, Nat.le_of_ble_eq_true rfl⟩ rfl rfl rfl rfl (Nat.le_of_ble_eq_true rfl) dX7_noRule_15 ⟨Nat.le_of_ble_eq_true rfl, Nat.le_of_ble_eq_true rfl⟩) (fun r_13 u_11 H locs h_12 hP hD hS => ?_)
    have h_12 : r_13 = -2 := h_12
    have hP : va_P D gx_cl [((am 1), .inl (k 0, 8, .inl (fun _ => 0)))] H := hP
    have hD : va_D A [((am 1), .inl (k 0, 8, .inl (fun _ => 0)))] := hD
    have eh_12 := h_12
    subst eh_12
    exact gx_retI C (u := ()) gx_nil gx_noneD hS (Or.inr ⟨rfl, c_1⟩) dX7_noRule_18
set_option maxHeartbeats 4000000 in
set_option maxRecDepth 100000 in
theorem m_noTold (l : Launch) (D : va_G) (k : Nat → ClassId) (hm : Nat) (am : Nat → Nat) (av : Int32) (bv : Int32) (cv : Int32) (dv : Int32) (sz : Nat) : Met l yX7_noTold (.code yX7_noTold cX7_noTold 6 (some .int) :: gx_T) ({ frames := 2, cells := 0, slots := 0, locals := 46 }) (gx_Pre D k [.ref hm, .int av, .int bv, .int cv, .int dv] ([(hm, .inr (5, [.ref (am 1), .ref (am 2), .ref (am 3), .ref (am 4), .ref (am 5), .ref (am 6), .ref (am 7), .ref (am 8), .int 0, .ref (am 9), .int 0, .ref (am 10), .int 0, .ref (am 11), .ref (am 12), .int 0, .int 0, .int 1, .null, .null, .int 0, .int 0, .int 0, .long 0, .int 0, .ref (am 13), .int 0, .int 0, .int 0, .ref (am 14), .ref (am 15), .ref (am 16), .ref (am 17), .int 0, .ref (am 18), .ref (am 19), .ref (am 20)])), ((am 9), .inl (k 0, 8, .inl (fun _ => 0)))]) sz) (gx_Qi D (fun (r : Int32) (u : Unit) => r = -2) (fun (u : Unit) => ([] : va_W)) (va_A ([(hm, .inr (5, [.ref (am 1), .ref (am 2), .ref (am 3), .ref (am 4), .ref (am 5), .ref (am 6), .ref (am 7), .ref (am 8), .int 0, .ref (am 9), .int 0, .ref (am 10), .int 0, .ref (am 11), .ref (am 12), .int 0, .int 0, .int 1, .null, .null, .int 0, .int 0, .int 0, .long 0, .int 0, .ref (am 13), .int 0, .int 0, .int 0, .ref (am 14), .ref (am 15), .ref (am 16), .ref (am 17), .int 0, .ref (am 18), .ref (am 19), .ref (am 20)])), ((am 9), .inl (k 0, 8, .inl (fun _ => 0)))]) sz)) 0 0 (va_A ([(hm, .inr (5, [.ref (am 1), .ref (am 2), .ref (am 3), .ref (am 4), .ref (am 5), .ref (am 6), .ref (am 7), .ref (am 8), .int 0, .ref (am 9), .int 0, .ref (am 10), .int 0, .ref (am 11), .ref (am 12), .int 0, .int 0, .int 1, .null, .null, .int 0, .int 0, .int 0, .long 0, .int 0, .ref (am 13), .int 0, .int 0, .int 0, .ref (am 14), .ref (am 15), .ref (am 16), .ref (am 17), .int 0, .ref (am 18), .ref (am 19), .ref (am 20)])), ((am 9), .inl (k 0, 8, .inl (fun _ => 0)))]) sz) := by
  refine gx_metE (Qc := fun A => gx_Qi D (fun (r : Int32) (u : Unit) => r = -2) (fun (u : Unit) => ([] : va_W)) A) (y := yX7_noTold) (cc := cX7_noTold) (n := 6) (ret := (some .int)) (av := [.ref hm, .int av, .int bv, .int cv, .int dv]) (by decide) (Nat.le_of_ble_eq_true rfl) ?_
  intro p e s m below meth c A ls C hA hP hD hK hS hl
  obtain ⟨hx, hb, hr, hml, hown, hT, hlk, hin⟩ := id C
  have hown : s.vm.findClass RX7 = some m.cls := hown
  have hl : lv_has ls 6 [(0, .ref hm), (1, .int av), (2, .int bv), (3, .int cv), (4, .int dv)] := hl
  refine lv_aload_n hx hb dX7_noTold_0 rfl (lv_at hl 0 rfl) ?_
  refine lv_iload_n hx hb dX7_noTold_1 rfl (lv_at hl 1 rfl) ?_
  refine gx_pi hP hS (gx_runV (na := 1) (As := [.int av]) (rest := []) (ci := 5) C hl.1 hK (gx_subP (wc := ([(hm, .inr (5, [.ref (am 1), .ref (am 2), .ref (am 3), .ref (am 4), .ref (am 5), .ref (am 6), .ref (am 7), .ref (am 8), .int 0, .ref (am 9), .int 0, .ref (am 10), .int 0, .ref (am 11), .ref (am 12), .int 0, .int 0, .int 1, .null, .null, .int 0, .int 0, .int 0, .long 0, .int 0, .ref (am 13), .int 0, .int 0, .int 0, .ref (am 14), .ref (am 15), .ref (am 16), .ref (am 17), .int 0, .ref (am 18), .ref (am 19), .ref (am 20)]))] : va_W)) hP [0] rfl) ((hD.sub (ws' := ([(hm, .inr (5, [.ref (am 1), .ref (am 2), .ref (am 3), .ref (am 4), .ref (am 5), .ref (am 6), .ref (am 7), .ref (am 8), .int 0, .ref (am 9), .int 0, .ref (am 10), .int 0, .ref (am 11), .ref (am 12), .int 0, .int 0, .int 1, .null, .null, .int 0, .int 0, .int 0, .long 0, .int 0, .ref (am 13), .int 0, .int 0, .int 0, .ref (am 14), .ref (am 15), .ref (am 16), .ref (am 17), .int 0, .ref (am 18), .ref (am 19), .ref (am 20)]))] : va_W)) [0] (by decide) rfl).weaken (fun _ _ _ _ => trivial)) (m_isOne l D k hm am av _) gV_RX7_235 (by decide +kernel) rfl rfl ⟨Nat.le_of_ble_eq_true rfl, Nat.le_of_ble_eq_true rfl⟩ rfl rfl rfl rfl (Nat.le_of_ble_eq_true rfl) dX7_noTold_2 ⟨Nat.le_of_ble_eq_true rfl, Nat.le_of_ble_eq_true rfl⟩) (fun r_2 H locs c_1 hP hS => ?_)
  have c_1 : r_2 = 0 := c_1
  subst c_1
  refine lv_if_eq (tgt := 32) hx hb dX7_noTold_5 (by decide) (fun c_3 => ?_) (fun c_3 => absurd (by decide) c_3)
  refine lv_aload_n hx hb dX7_noTold_32 rfl (lv_at hl 0 rfl) ?_
  refine lv_bipush (v := (-2)) hx hb dX7_noTold_33 (by decide) ?_
  refine gx_ei (wc := ([(hm, .inr (5, [.ref (am 1), .ref (am 2), .ref (am 3), .ref (am 4), .ref (am 5), .ref (am 6), .ref (am 7), .ref (am 8), .int 0, .ref (am 9), .int 0, .ref (am 10), .int 0, .ref (am 11), .ref (am 12), .int 0, .int 0, .int 1, .null, .null, .int 0, .int 0, .int 0, .long 0, .int 0, .ref (am 13), .int 0, .int 0, .int 0, .ref (am 14), .ref (am 15), .ref (am 16), .ref (am 17), .int 0, .ref (am 18), .ref (am 19), .ref (am 20)])), ((am 9), .inl (k 0, 8, .inl (fun _ => 0)))] : va_W)) (wr := []) (isC := [0, 1]) (isR := []) hP hD hS hA rfl rfl (by decide) (by decide) (gx_runV (na := 1) (As := [.int (-2)]) (rest := []) (ci := 5) C hl.1 hK (gx_subP (wc := ([(hm, .inr (5, [.ref (am 1), .ref (am 2), .ref (am 3), .ref (am 4), .ref (am 5), .ref (am 6), .ref (am 7), .ref (am 8), .int 0, .ref (am 9), .int 0, .ref (am 10), .int 0, .ref (am 11), .ref (am 12), .int 0, .int 0, .int 1, .null, .null, .int 0, .int 0, .int 0, .long 0, .int 0, .ref (am 13), .int 0, .int 0, .int 0, .ref (am 14), .ref (am 15), .ref (am 16), .ref (am 17), .int 0, .ref (am 18), .ref (am 19), .ref (am 20)])), ((am 9), .inl (k 0, 8, .inl (fun _ => 0)))] : va_W)) hP [0, 1] rfl) ((hD.sub (ws' := ([(hm, .inr (5, [.ref (am 1), .ref (am 2), .ref (am 3), .ref (am 4), .ref (am 5), .ref (am 6), .ref (am 7), .ref (am 8), .int 0, .ref (am 9), .int 0, .ref (am 10), .int 0, .ref (am 11), .ref (am 12), .int 0, .int 0, .int 1, .null, .null, .int 0, .int 0, .int 0, .long 0, .int 0, .ref (am 13), .int 0, .int 0, .int 0, .ref (am 14), .ref (am 15), .ref (am 16), .ref (am 17), .int 0, .ref (am 18), .ref (am 19), .ref (am 20)])), ((am 9), .inl (k 0, 8, .inl (fun _ => 0)))] : va_W)) [0, 1] (by decide) rfl).weaken (fun _ _ _ _ => trivial)) (m_refuse2 l D k hm am .null .null 0 _) gV_RX7_95 (by decide +kernel) rfl rfl ⟨Nat.le_of_ble_eq_true rfl, Nat.le_of_ble_eq_true rfl⟩ rfl rfl rfl rfl (Nat.le_of_ble_eq_true rfl) dX7_noTold_35 ⟨Nat.le_of_ble_eq_true rfl, Nat.le_of_ble_eq_true rfl⟩) (fun r_6 u_4 H locs h_5 hP hD hS => ?_)
  have h_5 : r_6 = -2 := h_5
  have hP : va_P D gx_cl [] H := hP
  have hD : va_D A [] := hD
  have eh_5 := h_5
  subst eh_5
  exact gx_retI C (u := ()) gx_nil gx_noneD hS (rfl) dX7_noTold_38
set_option maxHeartbeats 4000000 in
set_option maxRecDepth 100000 in
theorem m_row_pub (l : Launch) (D : va_G) (k : Nat → ClassId) (hm : Nat) (am : Nat → Nat) (gr : Nat → Option Nat) (ri : Nat) (sv : Int32) (so : Int32) (nv : Int32) (hf : gx_b sv 0 7 = true → gr sv.toNatClampNeg = some ri) (sz : Nat) : Met l yX7_row (.code yX7_row cX7_row 5 (some .int) :: gx_T) ({ frames := 1, cells := 0, slots := 0, locals := 25 }) (gx_Pre D k [.ref hm, .int sv, .int so, .int nv] ([(hm, .inr (5, [.ref (am 1), .ref (am 2), .ref (am 3), .ref (am 4), .ref (am 5), .ref (am 6), .ref (am 7), .ref (am 8), .int 0, .ref (am 9), .int 0, .ref (am 10), .int 0, .ref (am 11), .ref (am 12), .int 0, .int 0, .int 1, .null, .null, .int 0, .int 0, .int 0, .long 0, .int 0, .ref (am 13), .int 0, .int 0, .int 0, .ref (am 14), .ref (am 15), .ref (am 16), .ref (am 17), .int 0, .ref (am 18), .ref (am 19), .ref (am 20)])), ((am 9), .inl (k 0, 8, .inl (fun _ => 0))), ((am 1), .inl (k 0, 8, .inl (fun _ => 0))), ((am 2), .inl (k 0, 8, .inl (fun _ => 0))), ((am 3), .inl (k 0, 8, .inl (fun _ => 0))), ((am 4), .inl (k 4, 8, .inr (.inr (.inr (.inr gr))))), (ri, .inl (k 1, 40, .inr (.inl (fun _ => 0))))]) sz) (gx_Qi D (fun (r : Int32) (u : Unit) => r = (gs_row sv so nv)) (fun (u : Unit) => ([] : va_W)) (va_A ([(hm, .inr (5, [.ref (am 1), .ref (am 2), .ref (am 3), .ref (am 4), .ref (am 5), .ref (am 6), .ref (am 7), .ref (am 8), .int 0, .ref (am 9), .int 0, .ref (am 10), .int 0, .ref (am 11), .ref (am 12), .int 0, .int 0, .int 1, .null, .null, .int 0, .int 0, .int 0, .long 0, .int 0, .ref (am 13), .int 0, .int 0, .int 0, .ref (am 14), .ref (am 15), .ref (am 16), .ref (am 17), .int 0, .ref (am 18), .ref (am 19), .ref (am 20)])), ((am 9), .inl (k 0, 8, .inl (fun _ => 0))), ((am 1), .inl (k 0, 8, .inl (fun _ => 0))), ((am 2), .inl (k 0, 8, .inl (fun _ => 0))), ((am 3), .inl (k 0, 8, .inl (fun _ => 0))), ((am 4), .inl (k 4, 8, .inr (.inr (.inr (.inr gr))))), (ri, .inl (k 1, 40, .inr (.inl (fun _ => 0))))]) sz)) 0 0 (va_A ([(hm, .inr (5, [.ref (am 1), .ref (am 2), .ref (am 3), .ref (am 4), .ref (am 5), .ref (am 6), .ref (am 7), .ref (am 8), .int 0, .ref (am 9), .int 0, .ref (am 10), .int 0, .ref (am 11), .ref (am 12), .int 0, .int 0, .int 1, .null, .null, .int 0, .int 0, .int 0, .long 0, .int 0, .ref (am 13), .int 0, .int 0, .int 0, .ref (am 14), .ref (am 15), .ref (am 16), .ref (am 17), .int 0, .ref (am 18), .ref (am 19), .ref (am 20)])), ((am 9), .inl (k 0, 8, .inl (fun _ => 0))), ((am 1), .inl (k 0, 8, .inl (fun _ => 0))), ((am 2), .inl (k 0, 8, .inl (fun _ => 0))), ((am 3), .inl (k 0, 8, .inl (fun _ => 0))), ((am 4), .inl (k 4, 8, .inr (.inr (.inr (.inr gr))))), (ri, .inl (k 1, 40, .inr (.inl (fun _ => 0))))]) sz) := by
  refine gx_metE (Qc := fun A => gx_Qi D (fun (r : Int32) (u : Unit) => r = (gs_row sv so nv)) (fun (u : Unit) => ([] : va_W)) A) (y := yX7_row) (cc := cX7_row) (n := 5) (ret := (some .int)) (av := [.ref hm, .int sv, .int so, .int nv]) (by decide) (Nat.le_of_ble_eq_true rfl) ?_
  intro p e s m below meth c A ls C hA hP hD hK hS hl
  obtain ⟨hx, hb, hr, hml, hown, hT, hlk, hin⟩ := id C
  have hown : s.vm.findClass RX7 = some m.cls := hown
  have hl : lv_has ls 5 [(0, .ref hm), (1, .int sv), (2, .int so), (3, .int nv)] := hl
  refine lv_iload_n hx hb dX7_row_0 rfl (lv_at hl 1 rfl) ?_
  refine lv_i2l (v := (sv).toInt64) hx hb dX7_row_1 (rfl) ?_
  refine lv_lconst (v := 0) hx hb dX7_row_2 (by decide) ?_
  refine lv_ldc2 (v := 7) hx hb hown (hT _ wd_1046) dX7_row_3 ?_
  refine gx_pi hP hS (gx_runS (na := 3) (As := [.long ((sv).toInt64), .long 0, .long 7]) (rest := []) C hl.1 hK (gx_subP (wc := ([] : va_W)) hP [] rfl) ((hD.sub (ws' := ([] : va_W)) [] (by decide) rfl).weaken (fun _ _ _ _ => trivial)) (m_in l D k sv 0 7 0 7 (by decide) (by decide) _) gS_RX7_82 (by decide +kernel) rfl rfl ⟨Nat.le_of_ble_eq_true rfl, Nat.le_of_ble_eq_true rfl⟩ rfl rfl (Nat.le_of_ble_eq_true rfl) dX7_row_6 ⟨Nat.le_of_ble_eq_true rfl, Nat.le_of_ble_eq_true rfl⟩) (fun r_2 H locs pc_1 hP hS => ?_)
  have oc_1 : r_2 = 1 ∧ gx_b sv 0 7 = true ∨ r_2 = 0 ∧ gx_b sv 0 7 = false := pc_1
  clear pc_1
  rcases oc_1 with ⟨rfl, c_1⟩ | ⟨rfl, c_1⟩
  · refine lv_if_eq (tgt := 36) hx hb dX7_row_9 (by decide) (fun c_3 => absurd c_3 (by decide)) (fun c_3 => ?_)
    refine lv_iload_n hx hb dX7_row_12 rfl (lv_at hl 2 rfl) ?_
    refine lv_i2l (v := (so).toInt64) hx hb dX7_row_13 (rfl) ?_
    refine lv_lconst (v := 0) hx hb dX7_row_14 (by decide) ?_
    refine lv_ldc2 (v := 4) hx hb hown (hT _ wd_1050) dX7_row_15 ?_
    refine gx_pi hP hS (gx_runS (na := 3) (As := [.long ((so).toInt64), .long 0, .long 4]) (rest := []) C hl.1 hK (gx_subP (wc := ([] : va_W)) hP [] rfl) ((hD.sub (ws' := ([] : va_W)) [] (by decide) rfl).weaken (fun _ _ _ _ => trivial)) (m_in l D k so 0 4 0 4 (by decide) (by decide) _) gS_RX7_82 (by decide +kernel) rfl rfl ⟨Nat.le_of_ble_eq_true rfl, Nat.le_of_ble_eq_true rfl⟩ rfl rfl (Nat.le_of_ble_eq_true rfl) dX7_row_18 ⟨Nat.le_of_ble_eq_true rfl, Nat.le_of_ble_eq_true rfl⟩) (fun r_5 H locs pc_4 hP hS => ?_)
    have oc_4 : r_5 = 1 ∧ gx_b so 0 4 = true ∨ r_5 = 0 ∧ gx_b so 0 4 = false := pc_4
    clear pc_4
    rcases oc_4 with ⟨rfl, c_4⟩ | ⟨rfl, c_4⟩
    · refine lv_if_eq (tgt := 36) hx hb dX7_row_21 (by decide) (fun c_6 => absurd c_6 (by decide)) (fun c_6 => ?_)
      refine lv_iload_n hx hb dX7_row_24 rfl (lv_at hl 3 rfl) ?_
      refine lv_i2l (v := (nv).toInt64) hx hb dX7_row_25 (rfl) ?_
      refine lv_lconst (v := 0) hx hb dX7_row_26 (by decide) ?_
      refine lv_ldc2 (v := 40) hx hb hown (hT _ wd_1051) dX7_row_27 ?_
      refine gx_pi hP hS (gx_runS (na := 3) (As := [.long ((nv).toInt64), .long 0, .long 40]) (rest := []) C hl.1 hK (gx_subP (wc := ([] : va_W)) hP [] rfl) ((hD.sub (ws' := ([] : va_W)) [] (by decide) rfl).weaken (fun _ _ _ _ => trivial)) (m_in l D k nv 0 40 0 40 (by decide) (by decide) _) gS_RX7_82 (by decide +kernel) rfl rfl ⟨Nat.le_of_ble_eq_true rfl, Nat.le_of_ble_eq_true rfl⟩ rfl rfl (Nat.le_of_ble_eq_true rfl) dX7_row_30 ⟨Nat.le_of_ble_eq_true rfl, Nat.le_of_ble_eq_true rfl⟩) (fun r_8 H locs pc_7 hP hS => ?_)
      have oc_7 : r_8 = 1 ∧ gx_b nv 0 40 = true ∨ r_8 = 0 ∧ gx_b nv 0 40 = false := pc_7
      clear pc_7
      rcases oc_7 with ⟨rfl, c_7⟩ | ⟨rfl, c_7⟩
      · refine lv_if_ne (tgt := 43) hx hb dX7_row_33 (by decide) (fun c_9 => ?_) (fun c_9 => absurd c_9 (by decide))
        refine lv_aload_n hx hb dX7_row_43 rfl (lv_at hl 0 rfl) ?_
        refine va_get (D := D) (ci := 5) (v := .ref (am 1)) (C := RX7) (T := TX7) (N := 37) hx hb hT iw_TX7 hown hK.1 hP 0 rfl rfl 0 (by decide) (hT _ wd_930) (fun _ h9 => h9) rfl dX7_row_44 ?_
        refine lv_iload_n hx hb dX7_row_47 rfl (lv_at hl 1 rfl) ?_
        refine lv_iconst (v := 1) hx hb dX7_row_48 (by decide) ?_
        refine va_iast hx hb hK.1 hP hD hS 2 0 rfl rfl (gx_vb c_1 (by decide) (by decide)) dX7_row_49 (fun H locs hP hD hS => ?_)
        obtain ⟨f_10, ef_10⟩ : ∃ f9, f9 = upd ((fun _ => 0) : Nat → Int32) (sv : Int32).toNatClampNeg (1 : Int32) := ⟨_, rfl⟩
        have hP : va_P D gx_cl [(hm, .inr (5, [.ref (am 1), .ref (am 2), .ref (am 3), .ref (am 4), .ref (am 5), .ref (am 6), .ref (am 7), .ref (am 8), .int 0, .ref (am 9), .int 0, .ref (am 10), .int 0, .ref (am 11), .ref (am 12), .int 0, .int 0, .int 1, .null, .null, .int 0, .int 0, .int 0, .long 0, .int 0, .ref (am 13), .int 0, .int 0, .int 0, .ref (am 14), .ref (am 15), .ref (am 16), .ref (am 17), .int 0, .ref (am 18), .ref (am 19), .ref (am 20)])), ((am 9), .inl (k 0, 8, .inl (fun _ => 0))), ((am 1), .inl (k 0, 8, .inl f_10)), ((am 2), .inl (k 0, 8, .inl (fun _ => 0))), ((am 3), .inl (k 0, 8, .inl (fun _ => 0))), ((am 4), .inl (k 4, 8, .inr (.inr (.inr (.inr gr))))), (ri, .inl (k 1, 40, .inr (.inl (fun _ => 0))))] H := by subst ef_10; exact hP
        have hD : va_D A [(hm, .inr (5, [.ref (am 1), .ref (am 2), .ref (am 3), .ref (am 4), .ref (am 5), .ref (am 6), .ref (am 7), .ref (am 8), .int 0, .ref (am 9), .int 0, .ref (am 10), .int 0, .ref (am 11), .ref (am 12), .int 0, .int 0, .int 1, .null, .null, .int 0, .int 0, .int 0, .long 0, .int 0, .ref (am 13), .int 0, .int 0, .int 0, .ref (am 14), .ref (am 15), .ref (am 16), .ref (am 17), .int 0, .ref (am 18), .ref (am 19), .ref (am 20)])), ((am 9), .inl (k 0, 8, .inl (fun _ => 0))), ((am 1), .inl (k 0, 8, .inl f_10)), ((am 2), .inl (k 0, 8, .inl (fun _ => 0))), ((am 3), .inl (k 0, 8, .inl (fun _ => 0))), ((am 4), .inl (k 4, 8, .inr (.inr (.inr (.inr gr))))), (ri, .inl (k 1, 40, .inr (.inl (fun _ => 0))))] := by subst ef_10; exact hD
        refine lv_aload_n hx hb dX7_row_50 rfl (lv_at hl 0 rfl) ?_
        refine va_get (D := D) (ci := 5) (v := .ref (am 2)) (C := RX7) (T := TX7) (N := 37) hx hb hT iw_TX7 hown hK.1 hP 0 rfl rfl 1 (by decide) (hT _ wd_931) (fun _ h9 => h9) rfl dX7_row_51 ?_
        refine lv_iload_n hx hb dX7_row_54 rfl (lv_at hl 1 rfl) ?_
        refine lv_iload_n hx hb dX7_row_55 rfl (lv_at hl 2 rfl) ?_
        refine va_iast hx hb hK.1 hP hD hS 3 0 rfl rfl (gx_vb c_1 (by decide) (by decide)) dX7_row_56 (fun H locs hP hD hS => ?_)
        obtain ⟨f_11, ef_11⟩ : ∃ f9, f9 = upd ((fun _ => 0) : Nat → Int32) (sv : Int32).toNatClampNeg (so : Int32) := ⟨_, rfl⟩
        have hP : va_P D gx_cl [(hm, .inr (5, [.ref (am 1), .ref (am 2), .ref (am 3), .ref (am 4), .ref (am 5), .ref (am 6), .ref (am 7), .ref (am 8), .int 0, .ref (am 9), .int 0, .ref (am 10), .int 0, .ref (am 11), .ref (am 12), .int 0, .int 0, .int 1, .null, .null, .int 0, .int 0, .int 0, .long 0, .int 0, .ref (am 13), .int 0, .int 0, .int 0, .ref (am 14), .ref (am 15), .ref (am 16), .ref (am 17), .int 0, .ref (am 18), .ref (am 19), .ref (am 20)])), ((am 9), .inl (k 0, 8, .inl (fun _ => 0))), ((am 1), .inl (k 0, 8, .inl f_10)), ((am 2), .inl (k 0, 8, .inl f_11)), ((am 3), .inl (k 0, 8, .inl (fun _ => 0))), ((am 4), .inl (k 4, 8, .inr (.inr (.inr (.inr gr))))), (ri, .inl (k 1, 40, .inr (.inl (fun _ => 0))))] H := by subst ef_11; exact hP
        have hD : va_D A [(hm, .inr (5, [.ref (am 1), .ref (am 2), .ref (am 3), .ref (am 4), .ref (am 5), .ref (am 6), .ref (am 7), .ref (am 8), .int 0, .ref (am 9), .int 0, .ref (am 10), .int 0, .ref (am 11), .ref (am 12), .int 0, .int 0, .int 1, .null, .null, .int 0, .int 0, .int 0, .long 0, .int 0, .ref (am 13), .int 0, .int 0, .int 0, .ref (am 14), .ref (am 15), .ref (am 16), .ref (am 17), .int 0, .ref (am 18), .ref (am 19), .ref (am 20)])), ((am 9), .inl (k 0, 8, .inl (fun _ => 0))), ((am 1), .inl (k 0, 8, .inl f_10)), ((am 2), .inl (k 0, 8, .inl f_11)), ((am 3), .inl (k 0, 8, .inl (fun _ => 0))), ((am 4), .inl (k 4, 8, .inr (.inr (.inr (.inr gr))))), (ri, .inl (k 1, 40, .inr (.inl (fun _ => 0))))] := by subst ef_11; exact hD
        refine lv_aload_n hx hb dX7_row_57 rfl (lv_at hl 0 rfl) ?_
        refine va_get (D := D) (ci := 5) (v := .ref (am 3)) (C := RX7) (T := TX7) (N := 37) hx hb hT iw_TX7 hown hK.1 hP 0 rfl rfl 2 (by decide) (hT _ wd_932) (fun _ h9 => h9) rfl dX7_row_58 ?_
        refine lv_iload_n hx hb dX7_row_61 rfl (lv_at hl 1 rfl) ?_
        refine lv_iload_n hx hb dX7_row_62 rfl (lv_at hl 3 rfl) ?_
        refine va_iast hx hb hK.1 hP hD hS 4 0 rfl rfl (gx_vb c_1 (by decide) (by decide)) dX7_row_63 (fun H locs hP hD hS => ?_)
        obtain ⟨f_12, ef_12⟩ : ∃ f9, f9 = upd ((fun _ => 0) : Nat → Int32) (sv : Int32).toNatClampNeg (nv : Int32) := ⟨_, rfl⟩
        have hP : va_P D gx_cl [(hm, .inr (5, [.ref (am 1), .ref (am 2), .ref (am 3), .ref (am 4), .ref (am 5), .ref (am 6), .ref (am 7), .ref (am 8), .int 0, .ref (am 9), .int 0, .ref (am 10), .int 0, .ref (am 11), .ref (am 12), .int 0, .int 0, .int 1, .null, .null, .int 0, .int 0, .int 0, .long 0, .int 0, .ref (am 13), .int 0, .int 0, .int 0, .ref (am 14), .ref (am 15), .ref (am 16), .ref (am 17), .int 0, .ref (am 18), .ref (am 19), .ref (am 20)])), ((am 9), .inl (k 0, 8, .inl (fun _ => 0))), ((am 1), .inl (k 0, 8, .inl f_10)), ((am 2), .inl (k 0, 8, .inl f_11)), ((am 3), .inl (k 0, 8, .inl f_12)), ((am 4), .inl (k 4, 8, .inr (.inr (.inr (.inr gr))))), (ri, .inl (k 1, 40, .inr (.inl (fun _ => 0))))] H := by subst ef_12; exact hP
        have hD : va_D A [(hm, .inr (5, [.ref (am 1), .ref (am 2), .ref (am 3), .ref (am 4), .ref (am 5), .ref (am 6), .ref (am 7), .ref (am 8), .int 0, .ref (am 9), .int 0, .ref (am 10), .int 0, .ref (am 11), .ref (am 12), .int 0, .int 0, .int 1, .null, .null, .int 0, .int 0, .int 0, .long 0, .int 0, .ref (am 13), .int 0, .int 0, .int 0, .ref (am 14), .ref (am 15), .ref (am 16), .ref (am 17), .int 0, .ref (am 18), .ref (am 19), .ref (am 20)])), ((am 9), .inl (k 0, 8, .inl (fun _ => 0))), ((am 1), .inl (k 0, 8, .inl f_10)), ((am 2), .inl (k 0, 8, .inl f_11)), ((am 3), .inl (k 0, 8, .inl f_12)), ((am 4), .inl (k 4, 8, .inr (.inr (.inr (.inr gr))))), (ri, .inl (k 1, 40, .inr (.inl (fun _ => 0))))] := by subst ef_12; exact hD
        refine lv_iconst (v := 0) hx hb dX7_row_64 (by decide) ?_
        refine lv_istore (lv' := [(4, .int 0), (0, .ref hm), (1, .int sv), (2, .int so), (3, .int nv)]) hx hb dX7_row_65 hl (by decide) rfl (fun ls hl => ?_)
        refine lv_iload hx hb dX7_row_67 (lv_at hl 0 rfl) ?_
        refine lv_bipush (v := 40) hx hb dX7_row_69 (by decide) ?_
        refine lv_icmp_ge (tgt := 90) hx hb dX7_row_71 (by decide) (fun c_13 => absurd c_13 (by decide)) (fun c_13 => ?_)
        refine lv_aload_n hx hb dX7_row_74 rfl (lv_at hl 1 rfl) ?_
        refine va_get (D := D) (ci := 5) (v := .ref (am 4)) (C := RX7) (T := TX7) (N := 37) hx hb hT iw_TX7 hown hK.1 hP 0 rfl rfl 3 (by decide) (hT _ wd_933) (fun _ h9 => h9) rfl dX7_row_75 ?_
        refine lv_iload_n hx hb dX7_row_78 rfl (lv_at hl 2 rfl) ?_
        refine gx_aldA hx hb hK.1 hP 5 4 rfl rfl (gx_vb c_1 (by decide) (by decide)) dX7_row_79 ?_
        refine gx_csr (v := .ref ri) (congrArg va_rf (hf c_1)) ?_
        refine lv_iload hx hb dX7_row_80 (lv_at hl 0 rfl) ?_
        refine lv_lconst (v := 0) hx hb dX7_row_82 (by decide) ?_
        refine va_last hx hb hK.1 hP hD hS 6 1 rfl rfl (gx_vin rfl) dX7_row_83 (fun H locs hP hD hS => ?_)
        obtain ⟨f_14, ef_14⟩ : ∃ f9, f9 = vp_updL ((fun _ => 0) : Nat → Int64) (0 : Int32).toNatClampNeg (0 : Int64) := ⟨_, rfl⟩
        have hP : va_P D gx_cl [(hm, .inr (5, [.ref (am 1), .ref (am 2), .ref (am 3), .ref (am 4), .ref (am 5), .ref (am 6), .ref (am 7), .ref (am 8), .int 0, .ref (am 9), .int 0, .ref (am 10), .int 0, .ref (am 11), .ref (am 12), .int 0, .int 0, .int 1, .null, .null, .int 0, .int 0, .int 0, .long 0, .int 0, .ref (am 13), .int 0, .int 0, .int 0, .ref (am 14), .ref (am 15), .ref (am 16), .ref (am 17), .int 0, .ref (am 18), .ref (am 19), .ref (am 20)])), ((am 9), .inl (k 0, 8, .inl (fun _ => 0))), ((am 1), .inl (k 0, 8, .inl f_10)), ((am 2), .inl (k 0, 8, .inl f_11)), ((am 3), .inl (k 0, 8, .inl f_12)), ((am 4), .inl (k 4, 8, .inr (.inr (.inr (.inr gr))))), (ri, .inl (k 1, 40, .inr (.inl f_14)))] H := by subst ef_14; exact hP
        have hD : va_D A [(hm, .inr (5, [.ref (am 1), .ref (am 2), .ref (am 3), .ref (am 4), .ref (am 5), .ref (am 6), .ref (am 7), .ref (am 8), .int 0, .ref (am 9), .int 0, .ref (am 10), .int 0, .ref (am 11), .ref (am 12), .int 0, .int 0, .int 1, .null, .null, .int 0, .int 0, .int 0, .long 0, .int 0, .ref (am 13), .int 0, .int 0, .int 0, .ref (am 14), .ref (am 15), .ref (am 16), .ref (am 17), .int 0, .ref (am 18), .ref (am 19), .ref (am 20)])), ((am 9), .inl (k 0, 8, .inl (fun _ => 0))), ((am 1), .inl (k 0, 8, .inl f_10)), ((am 2), .inl (k 0, 8, .inl f_11)), ((am 3), .inl (k 0, 8, .inl f_12)), ((am 4), .inl (k 4, 8, .inr (.inr (.inr (.inr gr))))), (ri, .inl (k 1, 40, .inr (.inl f_14)))] := by subst ef_14; exact hD
        refine lv_iinc (v := 1) (lv' := [(4, .int 1), (0, .ref hm), (1, .int sv), (2, .int so), (3, .int nv)]) hx hb dX7_row_84 hl (k := 0) rfl (by decide) (by decide) rfl (fun ls hl => ?_)
        refine lv_goto (tgt := 67) hx hb dX7_row_87 (by decide) ?_
        refine lv_iload hx hb dX7_row_67 (lv_at hl 0 rfl) ?_
        refine lv_bipush (v := 40) hx hb dX7_row_69 (by decide) ?_
        refine lv_icmp_ge (tgt := 90) hx hb dX7_row_71 (by decide) (fun c_15 => absurd c_15 (by decide)) (fun c_15 => ?_)
        refine lv_aload_n hx hb dX7_row_74 rfl (lv_at hl 1 rfl) ?_
        refine va_get (D := D) (ci := 5) (v := .ref (am 4)) (C := RX7) (T := TX7) (N := 37) hx hb hT iw_TX7 hown hK.1 hP 0 rfl rfl 3 (by decide) (hT _ wd_933) (fun _ h9 => h9) rfl dX7_row_75 ?_
        refine lv_iload_n hx hb dX7_row_78 rfl (lv_at hl 2 rfl) ?_
        refine gx_aldA hx hb hK.1 hP 5 4 rfl rfl (gx_vb c_1 (by decide) (by decide)) dX7_row_79 ?_
        refine gx_csr (v := .ref ri) (congrArg va_rf (hf c_1)) ?_
        refine lv_iload hx hb dX7_row_80 (lv_at hl 0 rfl) ?_
        refine lv_lconst (v := 0) hx hb dX7_row_82 (by decide) ?_
        refine va_last hx hb hK.1 hP hD hS 6 1 rfl rfl (gx_vin rfl) dX7_row_83 (fun H locs hP hD hS => ?_)
        obtain ⟨f_16, ef_16⟩ : ∃ f9, f9 = vp_updL f_14 (1 : Int32).toNatClampNeg (0 : Int64) := ⟨_, rfl⟩
        have hP : va_P D gx_cl [(hm, .inr (5, [.ref (am 1), .ref (am 2), .ref (am 3), .ref (am 4), .ref (am 5), .ref (am 6), .ref (am 7), .ref (am 8), .int 0, .ref (am 9), .int 0, .ref (am 10), .int 0, .ref (am 11), .ref (am 12), .int 0, .int 0, .int 1, .null, .null, .int 0, .int 0, .int 0, .long 0, .int 0, .ref (am 13), .int 0, .int 0, .int 0, .ref (am 14), .ref (am 15), .ref (am 16), .ref (am 17), .int 0, .ref (am 18), .ref (am 19), .ref (am 20)])), ((am 9), .inl (k 0, 8, .inl (fun _ => 0))), ((am 1), .inl (k 0, 8, .inl f_10)), ((am 2), .inl (k 0, 8, .inl f_11)), ((am 3), .inl (k 0, 8, .inl f_12)), ((am 4), .inl (k 4, 8, .inr (.inr (.inr (.inr gr))))), (ri, .inl (k 1, 40, .inr (.inl f_16)))] H := by subst ef_16; exact hP
        have hD : va_D A [(hm, .inr (5, [.ref (am 1), .ref (am 2), .ref (am 3), .ref (am 4), .ref (am 5), .ref (am 6), .ref (am 7), .ref (am 8), .int 0, .ref (am 9), .int 0, .ref (am 10), .int 0, .ref (am 11), .ref (am 12), .int 0, .int 0, .int 1, .null, .null, .int 0, .int 0, .int 0, .long 0, .int 0, .ref (am 13), .int 0, .int 0, .int 0, .ref (am 14), .ref (am 15), .ref (am 16), .ref (am 17), .int 0, .ref (am 18), .ref (am 19), .ref (am 20)])), ((am 9), .inl (k 0, 8, .inl (fun _ => 0))), ((am 1), .inl (k 0, 8, .inl f_10)), ((am 2), .inl (k 0, 8, .inl f_11)), ((am 3), .inl (k 0, 8, .inl f_12)), ((am 4), .inl (k 4, 8, .inr (.inr (.inr (.inr gr))))), (ri, .inl (k 1, 40, .inr (.inl f_16)))] := by subst ef_16; exact hD
        refine lv_iinc (v := 2) (lv' := [(4, .int 2), (0, .ref hm), (1, .int sv), (2, .int so), (3, .int nv)]) hx hb dX7_row_84 hl (k := 0) rfl (by decide) (by decide) rfl (fun ls hl => ?_)
        refine lv_goto (tgt := 67) hx hb dX7_row_87 (by decide) ?_
        refine lv_iload hx hb dX7_row_67 (lv_at hl 0 rfl) ?_
        refine lv_bipush (v := 40) hx hb dX7_row_69 (by decide) ?_
        refine lv_icmp_ge (tgt := 90) hx hb dX7_row_71 (by decide) (fun c_17 => absurd c_17 (by decide)) (fun c_17 => ?_)
        refine lv_aload_n hx hb dX7_row_74 rfl (lv_at hl 1 rfl) ?_
        refine va_get (D := D) (ci := 5) (v := .ref (am 4)) (C := RX7) (T := TX7) (N := 37) hx hb hT iw_TX7 hown hK.1 hP 0 rfl rfl 3 (by decide) (hT _ wd_933) (fun _ h9 => h9) rfl dX7_row_75 ?_
        refine lv_iload_n hx hb dX7_row_78 rfl (lv_at hl 2 rfl) ?_
        refine gx_aldA hx hb hK.1 hP 5 4 rfl rfl (gx_vb c_1 (by decide) (by decide)) dX7_row_79 ?_
        refine gx_csr (v := .ref ri) (congrArg va_rf (hf c_1)) ?_
        refine lv_iload hx hb dX7_row_80 (lv_at hl 0 rfl) ?_
        refine lv_lconst (v := 0) hx hb dX7_row_82 (by decide) ?_
        refine va_last hx hb hK.1 hP hD hS 6 1 rfl rfl (gx_vin rfl) dX7_row_83 (fun H locs hP hD hS => ?_)
        obtain ⟨f_18, ef_18⟩ : ∃ f9, f9 = vp_updL f_16 (2 : Int32).toNatClampNeg (0 : Int64) := ⟨_, rfl⟩
        have hP : va_P D gx_cl [(hm, .inr (5, [.ref (am 1), .ref (am 2), .ref (am 3), .ref (am 4), .ref (am 5), .ref (am 6), .ref (am 7), .ref (am 8), .int 0, .ref (am 9), .int 0, .ref (am 10), .int 0, .ref (am 11), .ref (am 12), .int 0, .int 0, .int 1, .null, .null, .int 0, .int 0, .int 0, .long 0, .int 0, .ref (am 13), .int 0, .int 0, .int 0, .ref (am 14), .ref (am 15), .ref (am 16), .ref (am 17), .int 0, .ref (am 18), .ref (am 19), .ref (am 20)])), ((am 9), .inl (k 0, 8, .inl (fun _ => 0))), ((am 1), .inl (k 0, 8, .inl f_10)), ((am 2), .inl (k 0, 8, .inl f_11)), ((am 3), .inl (k 0, 8, .inl f_12)), ((am 4), .inl (k 4, 8, .inr (.inr (.inr (.inr gr))))), (ri, .inl (k 1, 40, .inr (.inl f_18)))] H := by subst ef_18; exact hP
        have hD : va_D A [(hm, .inr (5, [.ref (am 1), .ref (am 2), .ref (am 3), .ref (am 4), .ref (am 5), .ref (am 6), .ref (am 7), .ref (am 8), .int 0, .ref (am 9), .int 0, .ref (am 10), .int 0, .ref (am 11), .ref (am 12), .int 0, .int 0, .int 1, .null, .null, .int 0, .int 0, .int 0, .long 0, .int 0, .ref (am 13), .int 0, .int 0, .int 0, .ref (am 14), .ref (am 15), .ref (am 16), .ref (am 17), .int 0, .ref (am 18), .ref (am 19), .ref (am 20)])), ((am 9), .inl (k 0, 8, .inl (fun _ => 0))), ((am 1), .inl (k 0, 8, .inl f_10)), ((am 2), .inl (k 0, 8, .inl f_11)), ((am 3), .inl (k 0, 8, .inl f_12)), ((am 4), .inl (k 4, 8, .inr (.inr (.inr (.inr gr))))), (ri, .inl (k 1, 40, .inr (.inl f_18)))] := by subst ef_18; exact hD
        refine lv_iinc (v := 3) (lv' := [(4, .int 3), (0, .ref hm), (1, .int sv), (2, .int so), (3, .int nv)]) hx hb dX7_row_84 hl (k := 0) rfl (by decide) (by decide) rfl (fun ls hl => ?_)
        refine lv_goto (tgt := 67) hx hb dX7_row_87 (by decide) ?_
        refine lv_iload hx hb dX7_row_67 (lv_at hl 0 rfl) ?_
        refine lv_bipush (v := 40) hx hb dX7_row_69 (by decide) ?_
        refine lv_icmp_ge (tgt := 90) hx hb dX7_row_71 (by decide) (fun c_19 => absurd c_19 (by decide)) (fun c_19 => ?_)
        refine lv_aload_n hx hb dX7_row_74 rfl (lv_at hl 1 rfl) ?_
        refine va_get (D := D) (ci := 5) (v := .ref (am 4)) (C := RX7) (T := TX7) (N := 37) hx hb hT iw_TX7 hown hK.1 hP 0 rfl rfl 3 (by decide) (hT _ wd_933) (fun _ h9 => h9) rfl dX7_row_75 ?_
        refine lv_iload_n hx hb dX7_row_78 rfl (lv_at hl 2 rfl) ?_
        refine gx_aldA hx hb hK.1 hP 5 4 rfl rfl (gx_vb c_1 (by decide) (by decide)) dX7_row_79 ?_
        refine gx_csr (v := .ref ri) (congrArg va_rf (hf c_1)) ?_
        refine lv_iload hx hb dX7_row_80 (lv_at hl 0 rfl) ?_
        refine lv_lconst (v := 0) hx hb dX7_row_82 (by decide) ?_
        refine va_last hx hb hK.1 hP hD hS 6 1 rfl rfl (gx_vin rfl) dX7_row_83 (fun H locs hP hD hS => ?_)
        obtain ⟨f_20, ef_20⟩ : ∃ f9, f9 = vp_updL f_18 (3 : Int32).toNatClampNeg (0 : Int64) := ⟨_, rfl⟩
        have hP : va_P D gx_cl [(hm, .inr (5, [.ref (am 1), .ref (am 2), .ref (am 3), .ref (am 4), .ref (am 5), .ref (am 6), .ref (am 7), .ref (am 8), .int 0, .ref (am 9), .int 0, .ref (am 10), .int 0, .ref (am 11), .ref (am 12), .int 0, .int 0, .int 1, .null, .null, .int 0, .int 0, .int 0, .long 0, .int 0, .ref (am 13), .int 0, .int 0, .int 0, .ref (am 14), .ref (am 15), .ref (am 16), .ref (am 17), .int 0, .ref (am 18), .ref (am 19), .ref (am 20)])), ((am 9), .inl (k 0, 8, .inl (fun _ => 0))), ((am 1), .inl (k 0, 8, .inl f_10)), ((am 2), .inl (k 0, 8, .inl f_11)), ((am 3), .inl (k 0, 8, .inl f_12)), ((am 4), .inl (k 4, 8, .inr (.inr (.inr (.inr gr))))), (ri, .inl (k 1, 40, .inr (.inl f_20)))] H := by subst ef_20; exact hP
        have hD : va_D A [(hm, .inr (5, [.ref (am 1), .ref (am 2), .ref (am 3), .ref (am 4), .ref (am 5), .ref (am 6), .ref (am 7), .ref (am 8), .int 0, .ref (am 9), .int 0, .ref (am 10), .int 0, .ref (am 11), .ref (am 12), .int 0, .int 0, .int 1, .null, .null, .int 0, .int 0, .int 0, .long 0, .int 0, .ref (am 13), .int 0, .int 0, .int 0, .ref (am 14), .ref (am 15), .ref (am 16), .ref (am 17), .int 0, .ref (am 18), .ref (am 19), .ref (am 20)])), ((am 9), .inl (k 0, 8, .inl (fun _ => 0))), ((am 1), .inl (k 0, 8, .inl f_10)), ((am 2), .inl (k 0, 8, .inl f_11)), ((am 3), .inl (k 0, 8, .inl f_12)), ((am 4), .inl (k 4, 8, .inr (.inr (.inr (.inr gr))))), (ri, .inl (k 1, 40, .inr (.inl f_20)))] := by subst ef_20; exact hD
        refine lv_iinc (v := 4) (lv' := [(4, .int 4), (0, .ref hm), (1, .int sv), (2, .int so), (3, .int nv)]) hx hb dX7_row_84 hl (k := 0) rfl (by decide) (by decide) rfl (fun ls hl => ?_)
        refine lv_goto (tgt := 67) hx hb dX7_row_87 (by decide) ?_
        refine lv_iload hx hb dX7_row_67 (lv_at hl 0 rfl) ?_
        refine lv_bipush (v := 40) hx hb dX7_row_69 (by decide) ?_
        refine lv_icmp_ge (tgt := 90) hx hb dX7_row_71 (by decide) (fun c_21 => absurd c_21 (by decide)) (fun c_21 => ?_)
        refine lv_aload_n hx hb dX7_row_74 rfl (lv_at hl 1 rfl) ?_
        refine va_get (D := D) (ci := 5) (v := .ref (am 4)) (C := RX7) (T := TX7) (N := 37) hx hb hT iw_TX7 hown hK.1 hP 0 rfl rfl 3 (by decide) (hT _ wd_933) (fun _ h9 => h9) rfl dX7_row_75 ?_
        refine lv_iload_n hx hb dX7_row_78 rfl (lv_at hl 2 rfl) ?_
        refine gx_aldA hx hb hK.1 hP 5 4 rfl rfl (gx_vb c_1 (by decide) (by decide)) dX7_row_79 ?_
        refine gx_csr (v := .ref ri) (congrArg va_rf (hf c_1)) ?_
        refine lv_iload hx hb dX7_row_80 (lv_at hl 0 rfl) ?_
        refine lv_lconst (v := 0) hx hb dX7_row_82 (by decide) ?_
        refine va_last hx hb hK.1 hP hD hS 6 1 rfl rfl (gx_vin rfl) dX7_row_83 (fun H locs hP hD hS => ?_)
        obtain ⟨f_22, ef_22⟩ : ∃ f9, f9 = vp_updL f_20 (4 : Int32).toNatClampNeg (0 : Int64) := ⟨_, rfl⟩
        have hP : va_P D gx_cl [(hm, .inr (5, [.ref (am 1), .ref (am 2), .ref (am 3), .ref (am 4), .ref (am 5), .ref (am 6), .ref (am 7), .ref (am 8), .int 0, .ref (am 9), .int 0, .ref (am 10), .int 0, .ref (am 11), .ref (am 12), .int 0, .int 0, .int 1, .null, .null, .int 0, .int 0, .int 0, .long 0, .int 0, .ref (am 13), .int 0, .int 0, .int 0, .ref (am 14), .ref (am 15), .ref (am 16), .ref (am 17), .int 0, .ref (am 18), .ref (am 19), .ref (am 20)])), ((am 9), .inl (k 0, 8, .inl (fun _ => 0))), ((am 1), .inl (k 0, 8, .inl f_10)), ((am 2), .inl (k 0, 8, .inl f_11)), ((am 3), .inl (k 0, 8, .inl f_12)), ((am 4), .inl (k 4, 8, .inr (.inr (.inr (.inr gr))))), (ri, .inl (k 1, 40, .inr (.inl f_22)))] H := by subst ef_22; exact hP
        have hD : va_D A [(hm, .inr (5, [.ref (am 1), .ref (am 2), .ref (am 3), .ref (am 4), .ref (am 5), .ref (am 6), .ref (am 7), .ref (am 8), .int 0, .ref (am 9), .int 0, .ref (am 10), .int 0, .ref (am 11), .ref (am 12), .int 0, .int 0, .int 1, .null, .null, .int 0, .int 0, .int 0, .long 0, .int 0, .ref (am 13), .int 0, .int 0, .int 0, .ref (am 14), .ref (am 15), .ref (am 16), .ref (am 17), .int 0, .ref (am 18), .ref (am 19), .ref (am 20)])), ((am 9), .inl (k 0, 8, .inl (fun _ => 0))), ((am 1), .inl (k 0, 8, .inl f_10)), ((am 2), .inl (k 0, 8, .inl f_11)), ((am 3), .inl (k 0, 8, .inl f_12)), ((am 4), .inl (k 4, 8, .inr (.inr (.inr (.inr gr))))), (ri, .inl (k 1, 40, .inr (.inl f_22)))] := by subst ef_22; exact hD
        refine lv_iinc (v := 5) (lv' := [(4, .int 5), (0, .ref hm), (1, .int sv), (2, .int so), (3, .int nv)]) hx hb dX7_row_84 hl (k := 0) rfl (by decide) (by decide) rfl (fun ls hl => ?_)
        refine lv_goto (tgt := 67) hx hb dX7_row_87 (by decide) ?_
        refine lv_iload hx hb dX7_row_67 (lv_at hl 0 rfl) ?_
        refine lv_bipush (v := 40) hx hb dX7_row_69 (by decide) ?_
        refine lv_icmp_ge (tgt := 90) hx hb dX7_row_71 (by decide) (fun c_23 => absurd c_23 (by decide)) (fun c_23 => ?_)
        refine lv_aload_n hx hb dX7_row_74 rfl (lv_at hl 1 rfl) ?_
        refine va_get (D := D) (ci := 5) (v := .ref (am 4)) (C := RX7) (T := TX7) (N := 37) hx hb hT iw_TX7 hown hK.1 hP 0 rfl rfl 3 (by decide) (hT _ wd_933) (fun _ h9 => h9) rfl dX7_row_75 ?_
        refine lv_iload_n hx hb dX7_row_78 rfl (lv_at hl 2 rfl) ?_
        refine gx_aldA hx hb hK.1 hP 5 4 rfl rfl (gx_vb c_1 (by decide) (by decide)) dX7_row_79 ?_
        refine gx_csr (v := .ref ri) (congrArg va_rf (hf c_1)) ?_
        refine lv_iload hx hb dX7_row_80 (lv_at hl 0 rfl) ?_
        refine lv_lconst (v := 0) hx hb dX7_row_82 (by decide) ?_
        refine va_last hx hb hK.1 hP hD hS 6 1 rfl rfl (gx_vin rfl) dX7_row_83 (fun H locs hP hD hS => ?_)
        obtain ⟨f_24, ef_24⟩ : ∃ f9, f9 = vp_updL f_22 (5 : Int32).toNatClampNeg (0 : Int64) := ⟨_, rfl⟩
        have hP : va_P D gx_cl [(hm, .inr (5, [.ref (am 1), .ref (am 2), .ref (am 3), .ref (am 4), .ref (am 5), .ref (am 6), .ref (am 7), .ref (am 8), .int 0, .ref (am 9), .int 0, .ref (am 10), .int 0, .ref (am 11), .ref (am 12), .int 0, .int 0, .int 1, .null, .null, .int 0, .int 0, .int 0, .long 0, .int 0, .ref (am 13), .int 0, .int 0, .int 0, .ref (am 14), .ref (am 15), .ref (am 16), .ref (am 17), .int 0, .ref (am 18), .ref (am 19), .ref (am 20)])), ((am 9), .inl (k 0, 8, .inl (fun _ => 0))), ((am 1), .inl (k 0, 8, .inl f_10)), ((am 2), .inl (k 0, 8, .inl f_11)), ((am 3), .inl (k 0, 8, .inl f_12)), ((am 4), .inl (k 4, 8, .inr (.inr (.inr (.inr gr))))), (ri, .inl (k 1, 40, .inr (.inl f_24)))] H := by subst ef_24; exact hP
        have hD : va_D A [(hm, .inr (5, [.ref (am 1), .ref (am 2), .ref (am 3), .ref (am 4), .ref (am 5), .ref (am 6), .ref (am 7), .ref (am 8), .int 0, .ref (am 9), .int 0, .ref (am 10), .int 0, .ref (am 11), .ref (am 12), .int 0, .int 0, .int 1, .null, .null, .int 0, .int 0, .int 0, .long 0, .int 0, .ref (am 13), .int 0, .int 0, .int 0, .ref (am 14), .ref (am 15), .ref (am 16), .ref (am 17), .int 0, .ref (am 18), .ref (am 19), .ref (am 20)])), ((am 9), .inl (k 0, 8, .inl (fun _ => 0))), ((am 1), .inl (k 0, 8, .inl f_10)), ((am 2), .inl (k 0, 8, .inl f_11)), ((am 3), .inl (k 0, 8, .inl f_12)), ((am 4), .inl (k 4, 8, .inr (.inr (.inr (.inr gr))))), (ri, .inl (k 1, 40, .inr (.inl f_24)))] := by subst ef_24; exact hD
        refine lv_iinc (v := 6) (lv' := [(4, .int 6), (0, .ref hm), (1, .int sv), (2, .int so), (3, .int nv)]) hx hb dX7_row_84 hl (k := 0) rfl (by decide) (by decide) rfl (fun ls hl => ?_)
        refine lv_goto (tgt := 67) hx hb dX7_row_87 (by decide) ?_
        refine lv_iload hx hb dX7_row_67 (lv_at hl 0 rfl) ?_
        refine lv_bipush (v := 40) hx hb dX7_row_69 (by decide) ?_
        refine lv_icmp_ge (tgt := 90) hx hb dX7_row_71 (by decide) (fun c_25 => absurd c_25 (by decide)) (fun c_25 => ?_)
        refine lv_aload_n hx hb dX7_row_74 rfl (lv_at hl 1 rfl) ?_
        refine va_get (D := D) (ci := 5) (v := .ref (am 4)) (C := RX7) (T := TX7) (N := 37) hx hb hT iw_TX7 hown hK.1 hP 0 rfl rfl 3 (by decide) (hT _ wd_933) (fun _ h9 => h9) rfl dX7_row_75 ?_
        refine lv_iload_n hx hb dX7_row_78 rfl (lv_at hl 2 rfl) ?_
        refine gx_aldA hx hb hK.1 hP 5 4 rfl rfl (gx_vb c_1 (by decide) (by decide)) dX7_row_79 ?_
        refine gx_csr (v := .ref ri) (congrArg va_rf (hf c_1)) ?_
        refine lv_iload hx hb dX7_row_80 (lv_at hl 0 rfl) ?_
        refine lv_lconst (v := 0) hx hb dX7_row_82 (by decide) ?_
        refine va_last hx hb hK.1 hP hD hS 6 1 rfl rfl (gx_vin rfl) dX7_row_83 (fun H locs hP hD hS => ?_)
        obtain ⟨f_26, ef_26⟩ : ∃ f9, f9 = vp_updL f_24 (6 : Int32).toNatClampNeg (0 : Int64) := ⟨_, rfl⟩
        have hP : va_P D gx_cl [(hm, .inr (5, [.ref (am 1), .ref (am 2), .ref (am 3), .ref (am 4), .ref (am 5), .ref (am 6), .ref (am 7), .ref (am 8), .int 0, .ref (am 9), .int 0, .ref (am 10), .int 0, .ref (am 11), .ref (am 12), .int 0, .int 0, .int 1, .null, .null, .int 0, .int 0, .int 0, .long 0, .int 0, .ref (am 13), .int 0, .int 0, .int 0, .ref (am 14), .ref (am 15), .ref (am 16), .ref (am 17), .int 0, .ref (am 18), .ref (am 19), .ref (am 20)])), ((am 9), .inl (k 0, 8, .inl (fun _ => 0))), ((am 1), .inl (k 0, 8, .inl f_10)), ((am 2), .inl (k 0, 8, .inl f_11)), ((am 3), .inl (k 0, 8, .inl f_12)), ((am 4), .inl (k 4, 8, .inr (.inr (.inr (.inr gr))))), (ri, .inl (k 1, 40, .inr (.inl f_26)))] H := by subst ef_26; exact hP
        have hD : va_D A [(hm, .inr (5, [.ref (am 1), .ref (am 2), .ref (am 3), .ref (am 4), .ref (am 5), .ref (am 6), .ref (am 7), .ref (am 8), .int 0, .ref (am 9), .int 0, .ref (am 10), .int 0, .ref (am 11), .ref (am 12), .int 0, .int 0, .int 1, .null, .null, .int 0, .int 0, .int 0, .long 0, .int 0, .ref (am 13), .int 0, .int 0, .int 0, .ref (am 14), .ref (am 15), .ref (am 16), .ref (am 17), .int 0, .ref (am 18), .ref (am 19), .ref (am 20)])), ((am 9), .inl (k 0, 8, .inl (fun _ => 0))), ((am 1), .inl (k 0, 8, .inl f_10)), ((am 2), .inl (k 0, 8, .inl f_11)), ((am 3), .inl (k 0, 8, .inl f_12)), ((am 4), .inl (k 4, 8, .inr (.inr (.inr (.inr gr))))), (ri, .inl (k 1, 40, .inr (.inl f_26)))] := by subst ef_26; exact hD
        refine lv_iinc (v := 7) (lv' := [(4, .int 7), (0, .ref hm), (1, .int sv), (2, .int so), (3, .int nv)]) hx hb dX7_row_84 hl (k := 0) rfl (by decide) (by decide) rfl (fun ls hl => ?_)
        refine lv_goto (tgt := 67) hx hb dX7_row_87 (by decide) ?_
        refine lv_iload hx hb dX7_row_67 (lv_at hl 0 rfl) ?_
        refine lv_bipush (v := 40) hx hb dX7_row_69 (by decide) ?_
        refine lv_icmp_ge (tgt := 90) hx hb dX7_row_71 (by decide) (fun c_27 => absurd c_27 (by decide)) (fun c_27 => ?_)
        refine lv_aload_n hx hb dX7_row_74 rfl (lv_at hl 1 rfl) ?_
        refine va_get (D := D) (ci := 5) (v := .ref (am 4)) (C := RX7) (T := TX7) (N := 37) hx hb hT iw_TX7 hown hK.1 hP 0 rfl rfl 3 (by decide) (hT _ wd_933) (fun _ h9 => h9) rfl dX7_row_75 ?_
        refine lv_iload_n hx hb dX7_row_78 rfl (lv_at hl 2 rfl) ?_
        refine gx_aldA hx hb hK.1 hP 5 4 rfl rfl (gx_vb c_1 (by decide) (by decide)) dX7_row_79 ?_
        refine gx_csr (v := .ref ri) (congrArg va_rf (hf c_1)) ?_
        refine lv_iload hx hb dX7_row_80 (lv_at hl 0 rfl) ?_
        refine lv_lconst (v := 0) hx hb dX7_row_82 (by decide) ?_
        refine va_last hx hb hK.1 hP hD hS 6 1 rfl rfl (gx_vin rfl) dX7_row_83 (fun H locs hP hD hS => ?_)
        obtain ⟨f_28, ef_28⟩ : ∃ f9, f9 = vp_updL f_26 (7 : Int32).toNatClampNeg (0 : Int64) := ⟨_, rfl⟩
        have hP : va_P D gx_cl [(hm, .inr (5, [.ref (am 1), .ref (am 2), .ref (am 3), .ref (am 4), .ref (am 5), .ref (am 6), .ref (am 7), .ref (am 8), .int 0, .ref (am 9), .int 0, .ref (am 10), .int 0, .ref (am 11), .ref (am 12), .int 0, .int 0, .int 1, .null, .null, .int 0, .int 0, .int 0, .long 0, .int 0, .ref (am 13), .int 0, .int 0, .int 0, .ref (am 14), .ref (am 15), .ref (am 16), .ref (am 17), .int 0, .ref (am 18), .ref (am 19), .ref (am 20)])), ((am 9), .inl (k 0, 8, .inl (fun _ => 0))), ((am 1), .inl (k 0, 8, .inl f_10)), ((am 2), .inl (k 0, 8, .inl f_11)), ((am 3), .inl (k 0, 8, .inl f_12)), ((am 4), .inl (k 4, 8, .inr (.inr (.inr (.inr gr))))), (ri, .inl (k 1, 40, .inr (.inl f_28)))] H := by subst ef_28; exact hP
        have hD : va_D A [(hm, .inr (5, [.ref (am 1), .ref (am 2), .ref (am 3), .ref (am 4), .ref (am 5), .ref (am 6), .ref (am 7), .ref (am 8), .int 0, .ref (am 9), .int 0, .ref (am 10), .int 0, .ref (am 11), .ref (am 12), .int 0, .int 0, .int 1, .null, .null, .int 0, .int 0, .int 0, .long 0, .int 0, .ref (am 13), .int 0, .int 0, .int 0, .ref (am 14), .ref (am 15), .ref (am 16), .ref (am 17), .int 0, .ref (am 18), .ref (am 19), .ref (am 20)])), ((am 9), .inl (k 0, 8, .inl (fun _ => 0))), ((am 1), .inl (k 0, 8, .inl f_10)), ((am 2), .inl (k 0, 8, .inl f_11)), ((am 3), .inl (k 0, 8, .inl f_12)), ((am 4), .inl (k 4, 8, .inr (.inr (.inr (.inr gr))))), (ri, .inl (k 1, 40, .inr (.inl f_28)))] := by subst ef_28; exact hD
        refine lv_iinc (v := 8) (lv' := [(4, .int 8), (0, .ref hm), (1, .int sv), (2, .int so), (3, .int nv)]) hx hb dX7_row_84 hl (k := 0) rfl (by decide) (by decide) rfl (fun ls hl => ?_)
        refine lv_goto (tgt := 67) hx hb dX7_row_87 (by decide) ?_
        refine lv_iload hx hb dX7_row_67 (lv_at hl 0 rfl) ?_
        refine lv_bipush (v := 40) hx hb dX7_row_69 (by decide) ?_
        refine lv_icmp_ge (tgt := 90) hx hb dX7_row_71 (by decide) (fun c_29 => absurd c_29 (by decide)) (fun c_29 => ?_)
        refine lv_aload_n hx hb dX7_row_74 rfl (lv_at hl 1 rfl) ?_
        refine va_get (D := D) (ci := 5) (v := .ref (am 4)) (C := RX7) (T := TX7) (N := 37) hx hb hT iw_TX7 hown hK.1 hP 0 rfl rfl 3 (by decide) (hT _ wd_933) (fun _ h9 => h9) rfl dX7_row_75 ?_
        refine lv_iload_n hx hb dX7_row_78 rfl (lv_at hl 2 rfl) ?_
        refine gx_aldA hx hb hK.1 hP 5 4 rfl rfl (gx_vb c_1 (by decide) (by decide)) dX7_row_79 ?_
        refine gx_csr (v := .ref ri) (congrArg va_rf (hf c_1)) ?_
        refine lv_iload hx hb dX7_row_80 (lv_at hl 0 rfl) ?_
        refine lv_lconst (v := 0) hx hb dX7_row_82 (by decide) ?_
        refine va_last hx hb hK.1 hP hD hS 6 1 rfl rfl (gx_vin rfl) dX7_row_83 (fun H locs hP hD hS => ?_)
        obtain ⟨f_30, ef_30⟩ : ∃ f9, f9 = vp_updL f_28 (8 : Int32).toNatClampNeg (0 : Int64) := ⟨_, rfl⟩
        have hP : va_P D gx_cl [(hm, .inr (5, [.ref (am 1), .ref (am 2), .ref (am 3), .ref (am 4), .ref (am 5), .ref (am 6), .ref (am 7), .ref (am 8), .int 0, .ref (am 9), .int 0, .ref (am 10), .int 0, .ref (am 11), .ref (am 12), .int 0, .int 0, .int 1, .null, .null, .int 0, .int 0, .int 0, .long 0, .int 0, .ref (am 13), .int 0, .int 0, .int 0, .ref (am 14), .ref (am 15), .ref (am 16), .ref (am 17), .int 0, .ref (am 18), .ref (am 19), .ref (am 20)])), ((am 9), .inl (k 0, 8, .inl (fun _ => 0))), ((am 1), .inl (k 0, 8, .inl f_10)), ((am 2), .inl (k 0, 8, .inl f_11)), ((am 3), .inl (k 0, 8, .inl f_12)), ((am 4), .inl (k 4, 8, .inr (.inr (.inr (.inr gr))))), (ri, .inl (k 1, 40, .inr (.inl f_30)))] H := by subst ef_30; exact hP
        have hD : va_D A [(hm, .inr (5, [.ref (am 1), .ref (am 2), .ref (am 3), .ref (am 4), .ref (am 5), .ref (am 6), .ref (am 7), .ref (am 8), .int 0, .ref (am 9), .int 0, .ref (am 10), .int 0, .ref (am 11), .ref (am 12), .int 0, .int 0, .int 1, .null, .null, .int 0, .int 0, .int 0, .long 0, .int 0, .ref (am 13), .int 0, .int 0, .int 0, .ref (am 14), .ref (am 15), .ref (am 16), .ref (am 17), .int 0, .ref (am 18), .ref (am 19), .ref (am 20)])), ((am 9), .inl (k 0, 8, .inl (fun _ => 0))), ((am 1), .inl (k 0, 8, .inl f_10)), ((am 2), .inl (k 0, 8, .inl f_11)), ((am 3), .inl (k 0, 8, .inl f_12)), ((am 4), .inl (k 4, 8, .inr (.inr (.inr (.inr gr))))), (ri, .inl (k 1, 40, .inr (.inl f_30)))] := by subst ef_30; exact hD
        refine lv_iinc (v := 9) (lv' := [(4, .int 9), (0, .ref hm), (1, .int sv), (2, .int so), (3, .int nv)]) hx hb dX7_row_84 hl (k := 0) rfl (by decide) (by decide) rfl (fun ls hl => ?_)
        refine lv_goto (tgt := 67) hx hb dX7_row_87 (by decide) ?_
        refine lv_iload hx hb dX7_row_67 (lv_at hl 0 rfl) ?_
        refine lv_bipush (v := 40) hx hb dX7_row_69 (by decide) ?_
        refine lv_icmp_ge (tgt := 90) hx hb dX7_row_71 (by decide) (fun c_31 => absurd c_31 (by decide)) (fun c_31 => ?_)
        refine lv_aload_n hx hb dX7_row_74 rfl (lv_at hl 1 rfl) ?_
        refine va_get (D := D) (ci := 5) (v := .ref (am 4)) (C := RX7) (T := TX7) (N := 37) hx hb hT iw_TX7 hown hK.1 hP 0 rfl rfl 3 (by decide) (hT _ wd_933) (fun _ h9 => h9) rfl dX7_row_75 ?_
        refine lv_iload_n hx hb dX7_row_78 rfl (lv_at hl 2 rfl) ?_
        refine gx_aldA hx hb hK.1 hP 5 4 rfl rfl (gx_vb c_1 (by decide) (by decide)) dX7_row_79 ?_
        refine gx_csr (v := .ref ri) (congrArg va_rf (hf c_1)) ?_
        refine lv_iload hx hb dX7_row_80 (lv_at hl 0 rfl) ?_
        refine lv_lconst (v := 0) hx hb dX7_row_82 (by decide) ?_
        refine va_last hx hb hK.1 hP hD hS 6 1 rfl rfl (gx_vin rfl) dX7_row_83 (fun H locs hP hD hS => ?_)
        obtain ⟨f_32, ef_32⟩ : ∃ f9, f9 = vp_updL f_30 (9 : Int32).toNatClampNeg (0 : Int64) := ⟨_, rfl⟩
        have hP : va_P D gx_cl [(hm, .inr (5, [.ref (am 1), .ref (am 2), .ref (am 3), .ref (am 4), .ref (am 5), .ref (am 6), .ref (am 7), .ref (am 8), .int 0, .ref (am 9), .int 0, .ref (am 10), .int 0, .ref (am 11), .ref (am 12), .int 0, .int 0, .int 1, .null, .null, .int 0, .int 0, .int 0, .long 0, .int 0, .ref (am 13), .int 0, .int 0, .int 0, .ref (am 14), .ref (am 15), .ref (am 16), .ref (am 17), .int 0, .ref (am 18), .ref (am 19), .ref (am 20)])), ((am 9), .inl (k 0, 8, .inl (fun _ => 0))), ((am 1), .inl (k 0, 8, .inl f_10)), ((am 2), .inl (k 0, 8, .inl f_11)), ((am 3), .inl (k 0, 8, .inl f_12)), ((am 4), .inl (k 4, 8, .inr (.inr (.inr (.inr gr))))), (ri, .inl (k 1, 40, .inr (.inl f_32)))] H := by subst ef_32; exact hP
        have hD : va_D A [(hm, .inr (5, [.ref (am 1), .ref (am 2), .ref (am 3), .ref (am 4), .ref (am 5), .ref (am 6), .ref (am 7), .ref (am 8), .int 0, .ref (am 9), .int 0, .ref (am 10), .int 0, .ref (am 11), .ref (am 12), .int 0, .int 0, .int 1, .null, .null, .int 0, .int 0, .int 0, .long 0, .int 0, .ref (am 13), .int 0, .int 0, .int 0, .ref (am 14), .ref (am 15), .ref (am 16), .ref (am 17), .int 0, .ref (am 18), .ref (am 19), .ref (am 20)])), ((am 9), .inl (k 0, 8, .inl (fun _ => 0))), ((am 1), .inl (k 0, 8, .inl f_10)), ((am 2), .inl (k 0, 8, .inl f_11)), ((am 3), .inl (k 0, 8, .inl f_12)), ((am 4), .inl (k 4, 8, .inr (.inr (.inr (.inr gr))))), (ri, .inl (k 1, 40, .inr (.inl f_32)))] := by subst ef_32; exact hD
        refine lv_iinc (v := 10) (lv' := [(4, .int 10), (0, .ref hm), (1, .int sv), (2, .int so), (3, .int nv)]) hx hb dX7_row_84 hl (k := 0) rfl (by decide) (by decide) rfl (fun ls hl => ?_)
        refine lv_goto (tgt := 67) hx hb dX7_row_87 (by decide) ?_
        refine lv_iload hx hb dX7_row_67 (lv_at hl 0 rfl) ?_
        refine lv_bipush (v := 40) hx hb dX7_row_69 (by decide) ?_
        refine lv_icmp_ge (tgt := 90) hx hb dX7_row_71 (by decide) (fun c_33 => absurd c_33 (by decide)) (fun c_33 => ?_)
        refine lv_aload_n hx hb dX7_row_74 rfl (lv_at hl 1 rfl) ?_
        refine va_get (D := D) (ci := 5) (v := .ref (am 4)) (C := RX7) (T := TX7) (N := 37) hx hb hT iw_TX7 hown hK.1 hP 0 rfl rfl 3 (by decide) (hT _ wd_933) (fun _ h9 => h9) rfl dX7_row_75 ?_
        refine lv_iload_n hx hb dX7_row_78 rfl (lv_at hl 2 rfl) ?_
        refine gx_aldA hx hb hK.1 hP 5 4 rfl rfl (gx_vb c_1 (by decide) (by decide)) dX7_row_79 ?_
        refine gx_csr (v := .ref ri) (congrArg va_rf (hf c_1)) ?_
        refine lv_iload hx hb dX7_row_80 (lv_at hl 0 rfl) ?_
        refine lv_lconst (v := 0) hx hb dX7_row_82 (by decide) ?_
        refine va_last hx hb hK.1 hP hD hS 6 1 rfl rfl (gx_vin rfl) dX7_row_83 (fun H locs hP hD hS => ?_)
        obtain ⟨f_34, ef_34⟩ : ∃ f9, f9 = vp_updL f_32 (10 : Int32).toNatClampNeg (0 : Int64) := ⟨_, rfl⟩
        have hP : va_P D gx_cl [(hm, .inr (5, [.ref (am 1), .ref (am 2), .ref (am 3), .ref (am 4), .ref (am 5), .ref (am 6), .ref (am 7), .ref (am 8), .int 0, .ref (am 9), .int 0, .ref (am 10), .int 0, .ref (am 11), .ref (am 12), .int 0, .int 0, .int 1, .null, .null, .int 0, .int 0, .int 0, .long 0, .int 0, .ref (am 13), .int 0, .int 0, .int 0, .ref (am 14), .ref (am 15), .ref (am 16), .ref (am 17), .int 0, .ref (am 18), .ref (am 19), .ref (am 20)])), ((am 9), .inl (k 0, 8, .inl (fun _ => 0))), ((am 1), .inl (k 0, 8, .inl f_10)), ((am 2), .inl (k 0, 8, .inl f_11)), ((am 3), .inl (k 0, 8, .inl f_12)), ((am 4), .inl (k 4, 8, .inr (.inr (.inr (.inr gr))))), (ri, .inl (k 1, 40, .inr (.inl f_34)))] H := by subst ef_34; exact hP
        have hD : va_D A [(hm, .inr (5, [.ref (am 1), .ref (am 2), .ref (am 3), .ref (am 4), .ref (am 5), .ref (am 6), .ref (am 7), .ref (am 8), .int 0, .ref (am 9), .int 0, .ref (am 10), .int 0, .ref (am 11), .ref (am 12), .int 0, .int 0, .int 1, .null, .null, .int 0, .int 0, .int 0, .long 0, .int 0, .ref (am 13), .int 0, .int 0, .int 0, .ref (am 14), .ref (am 15), .ref (am 16), .ref (am 17), .int 0, .ref (am 18), .ref (am 19), .ref (am 20)])), ((am 9), .inl (k 0, 8, .inl (fun _ => 0))), ((am 1), .inl (k 0, 8, .inl f_10)), ((am 2), .inl (k 0, 8, .inl f_11)), ((am 3), .inl (k 0, 8, .inl f_12)), ((am 4), .inl (k 4, 8, .inr (.inr (.inr (.inr gr))))), (ri, .inl (k 1, 40, .inr (.inl f_34)))] := by subst ef_34; exact hD
        refine lv_iinc (v := 11) (lv' := [(4, .int 11), (0, .ref hm), (1, .int sv), (2, .int so), (3, .int nv)]) hx hb dX7_row_84 hl (k := 0) rfl (by decide) (by decide) rfl (fun ls hl => ?_)
        refine lv_goto (tgt := 67) hx hb dX7_row_87 (by decide) ?_
        refine lv_iload hx hb dX7_row_67 (lv_at hl 0 rfl) ?_
        refine lv_bipush (v := 40) hx hb dX7_row_69 (by decide) ?_
        refine lv_icmp_ge (tgt := 90) hx hb dX7_row_71 (by decide) (fun c_35 => absurd c_35 (by decide)) (fun c_35 => ?_)
        refine lv_aload_n hx hb dX7_row_74 rfl (lv_at hl 1 rfl) ?_
        refine va_get (D := D) (ci := 5) (v := .ref (am 4)) (C := RX7) (T := TX7) (N := 37) hx hb hT iw_TX7 hown hK.1 hP 0 rfl rfl 3 (by decide) (hT _ wd_933) (fun _ h9 => h9) rfl dX7_row_75 ?_
        refine lv_iload_n hx hb dX7_row_78 rfl (lv_at hl 2 rfl) ?_
        refine gx_aldA hx hb hK.1 hP 5 4 rfl rfl (gx_vb c_1 (by decide) (by decide)) dX7_row_79 ?_
        refine gx_csr (v := .ref ri) (congrArg va_rf (hf c_1)) ?_
        refine lv_iload hx hb dX7_row_80 (lv_at hl 0 rfl) ?_
        refine lv_lconst (v := 0) hx hb dX7_row_82 (by decide) ?_
        refine va_last hx hb hK.1 hP hD hS 6 1 rfl rfl (gx_vin rfl) dX7_row_83 (fun H locs hP hD hS => ?_)
        obtain ⟨f_36, ef_36⟩ : ∃ f9, f9 = vp_updL f_34 (11 : Int32).toNatClampNeg (0 : Int64) := ⟨_, rfl⟩
        have hP : va_P D gx_cl [(hm, .inr (5, [.ref (am 1), .ref (am 2), .ref (am 3), .ref (am 4), .ref (am 5), .ref (am 6), .ref (am 7), .ref (am 8), .int 0, .ref (am 9), .int 0, .ref (am 10), .int 0, .ref (am 11), .ref (am 12), .int 0, .int 0, .int 1, .null, .null, .int 0, .int 0, .int 0, .long 0, .int 0, .ref (am 13), .int 0, .int 0, .int 0, .ref (am 14), .ref (am 15), .ref (am 16), .ref (am 17), .int 0, .ref (am 18), .ref (am 19), .ref (am 20)])), ((am 9), .inl (k 0, 8, .inl (fun _ => 0))), ((am 1), .inl (k 0, 8, .inl f_10)), ((am 2), .inl (k 0, 8, .inl f_11)), ((am 3), .inl (k 0, 8, .inl f_12)), ((am 4), .inl (k 4, 8, .inr (.inr (.inr (.inr gr))))), (ri, .inl (k 1, 40, .inr (.inl f_36)))] H := by subst ef_36; exact hP
        have hD : va_D A [(hm, .inr (5, [.ref (am 1), .ref (am 2), .ref (am 3), .ref (am 4), .ref (am 5), .ref (am 6), .ref (am 7), .ref (am 8), .int 0, .ref (am 9), .int 0, .ref (am 10), .int 0, .ref (am 11), .ref (am 12), .int 0, .int 0, .int 1, .null, .null, .int 0, .int 0, .int 0, .long 0, .int 0, .ref (am 13), .int 0, .int 0, .int 0, .ref (am 14), .ref (am 15), .ref (am 16), .ref (am 17), .int 0, .ref (am 18), .ref (am 19), .ref (am 20)])), ((am 9), .inl (k 0, 8, .inl (fun _ => 0))), ((am 1), .inl (k 0, 8, .inl f_10)), ((am 2), .inl (k 0, 8, .inl f_11)), ((am 3), .inl (k 0, 8, .inl f_12)), ((am 4), .inl (k 4, 8, .inr (.inr (.inr (.inr gr))))), (ri, .inl (k 1, 40, .inr (.inl f_36)))] := by subst ef_36; exact hD
        refine lv_iinc (v := 12) (lv' := [(4, .int 12), (0, .ref hm), (1, .int sv), (2, .int so), (3, .int nv)]) hx hb dX7_row_84 hl (k := 0) rfl (by decide) (by decide) rfl (fun ls hl => ?_)
        refine lv_goto (tgt := 67) hx hb dX7_row_87 (by decide) ?_
        refine lv_iload hx hb dX7_row_67 (lv_at hl 0 rfl) ?_
        refine lv_bipush (v := 40) hx hb dX7_row_69 (by decide) ?_
        refine lv_icmp_ge (tgt := 90) hx hb dX7_row_71 (by decide) (fun c_37 => absurd c_37 (by decide)) (fun c_37 => ?_)
        refine lv_aload_n hx hb dX7_row_74 rfl (lv_at hl 1 rfl) ?_
        refine va_get (D := D) (ci := 5) (v := .ref (am 4)) (C := RX7) (T := TX7) (N := 37) hx hb hT iw_TX7 hown hK.1 hP 0 rfl rfl 3 (by decide) (hT _ wd_933) (fun _ h9 => h9) rfl dX7_row_75 ?_
        refine lv_iload_n hx hb dX7_row_78 rfl (lv_at hl 2 rfl) ?_
        refine gx_aldA hx hb hK.1 hP 5 4 rfl rfl (gx_vb c_1 (by decide) (by decide)) dX7_row_79 ?_
        refine gx_csr (v := .ref ri) (congrArg va_rf (hf c_1)) ?_
        refine lv_iload hx hb dX7_row_80 (lv_at hl 0 rfl) ?_
        refine lv_lconst (v := 0) hx hb dX7_row_82 (by decide) ?_
        refine va_last hx hb hK.1 hP hD hS 6 1 rfl rfl (gx_vin rfl) dX7_row_83 (fun H locs hP hD hS => ?_)
        obtain ⟨f_38, ef_38⟩ : ∃ f9, f9 = vp_updL f_36 (12 : Int32).toNatClampNeg (0 : Int64) := ⟨_, rfl⟩
        have hP : va_P D gx_cl [(hm, .inr (5, [.ref (am 1), .ref (am 2), .ref (am 3), .ref (am 4), .ref (am 5), .ref (am 6), .ref (am 7), .ref (am 8), .int 0, .ref (am 9), .int 0, .ref (am 10), .int 0, .ref (am 11), .ref (am 12), .int 0, .int 0, .int 1, .null, .null, .int 0, .int 0, .int 0, .long 0, .int 0, .ref (am 13), .int 0, .int 0, .int 0, .ref (am 14), .ref (am 15), .ref (am 16), .ref (am 17), .int 0, .ref (am 18), .ref (am 19), .ref (am 20)])), ((am 9), .inl (k 0, 8, .inl (fun _ => 0))), ((am 1), .inl (k 0, 8, .inl f_10)), ((am 2), .inl (k 0, 8, .inl f_11)), ((am 3), .inl (k 0, 8, .inl f_12)), ((am 4), .inl (k 4, 8, .inr (.inr (.inr (.inr gr))))), (ri, .inl (k 1, 40, .inr (.inl f_38)))] H := by subst ef_38; exact hP
        have hD : va_D A [(hm, .inr (5, [.ref (am 1), .ref (am 2), .ref (am 3), .ref (am 4), .ref (am 5), .ref (am 6), .ref (am 7), .ref (am 8), .int 0, .ref (am 9), .int 0, .ref (am 10), .int 0, .ref (am 11), .ref (am 12), .int 0, .int 0, .int 1, .null, .null, .int 0, .int 0, .int 0, .long 0, .int 0, .ref (am 13), .int 0, .int 0, .int 0, .ref (am 14), .ref (am 15), .ref (am 16), .ref (am 17), .int 0, .ref (am 18), .ref (am 19), .ref (am 20)])), ((am 9), .inl (k 0, 8, .inl (fun _ => 0))), ((am 1), .inl (k 0, 8, .inl f_10)), ((am 2), .inl (k 0, 8, .inl f_11)), ((am 3), .inl (k 0, 8, .inl f_12)), ((am 4), .inl (k 4, 8, .inr (.inr (.inr (.inr gr))))), (ri, .inl (k 1, 40, .inr (.inl f_38)))] := by subst ef_38; exact hD
        refine lv_iinc (v := 13) (lv' := [(4, .int 13), (0, .ref hm), (1, .int sv), (2, .int so), (3, .int nv)]) hx hb dX7_row_84 hl (k := 0) rfl (by decide) (by decide) rfl (fun ls hl => ?_)
        refine lv_goto (tgt := 67) hx hb dX7_row_87 (by decide) ?_
        refine lv_iload hx hb dX7_row_67 (lv_at hl 0 rfl) ?_
        refine lv_bipush (v := 40) hx hb dX7_row_69 (by decide) ?_
        refine lv_icmp_ge (tgt := 90) hx hb dX7_row_71 (by decide) (fun c_39 => absurd c_39 (by decide)) (fun c_39 => ?_)
        refine lv_aload_n hx hb dX7_row_74 rfl (lv_at hl 1 rfl) ?_
        refine va_get (D := D) (ci := 5) (v := .ref (am 4)) (C := RX7) (T := TX7) (N := 37) hx hb hT iw_TX7 hown hK.1 hP 0 rfl rfl 3 (by decide) (hT _ wd_933) (fun _ h9 => h9) rfl dX7_row_75 ?_
        refine lv_iload_n hx hb dX7_row_78 rfl (lv_at hl 2 rfl) ?_
        refine gx_aldA hx hb hK.1 hP 5 4 rfl rfl (gx_vb c_1 (by decide) (by decide)) dX7_row_79 ?_
        refine gx_csr (v := .ref ri) (congrArg va_rf (hf c_1)) ?_
        refine lv_iload hx hb dX7_row_80 (lv_at hl 0 rfl) ?_
        refine lv_lconst (v := 0) hx hb dX7_row_82 (by decide) ?_
        refine va_last hx hb hK.1 hP hD hS 6 1 rfl rfl (gx_vin rfl) dX7_row_83 (fun H locs hP hD hS => ?_)
        obtain ⟨f_40, ef_40⟩ : ∃ f9, f9 = vp_updL f_38 (13 : Int32).toNatClampNeg (0 : Int64) := ⟨_, rfl⟩
        have hP : va_P D gx_cl [(hm, .inr (5, [.ref (am 1), .ref (am 2), .ref (am 3), .ref (am 4), .ref (am 5), .ref (am 6), .ref (am 7), .ref (am 8), .int 0, .ref (am 9), .int 0, .ref (am 10), .int 0, .ref (am 11), .ref (am 12), .int 0, .int 0, .int 1, .null, .null, .int 0, .int 0, .int 0, .long 0, .int 0, .ref (am 13), .int 0, .int 0, .int 0, .ref (am 14), .ref (am 15), .ref (am 16), .ref (am 17), .int 0, .ref (am 18), .ref (am 19), .ref (am 20)])), ((am 9), .inl (k 0, 8, .inl (fun _ => 0))), ((am 1), .inl (k 0, 8, .inl f_10)), ((am 2), .inl (k 0, 8, .inl f_11)), ((am 3), .inl (k 0, 8, .inl f_12)), ((am 4), .inl (k 4, 8, .inr (.inr (.inr (.inr gr))))), (ri, .inl (k 1, 40, .inr (.inl f_40)))] H := by subst ef_40; exact hP
        have hD : va_D A [(hm, .inr (5, [.ref (am 1), .ref (am 2), .ref (am 3), .ref (am 4), .ref (am 5), .ref (am 6), .ref (am 7), .ref (am 8), .int 0, .ref (am 9), .int 0, .ref (am 10), .int 0, .ref (am 11), .ref (am 12), .int 0, .int 0, .int 1, .null, .null, .int 0, .int 0, .int 0, .long 0, .int 0, .ref (am 13), .int 0, .int 0, .int 0, .ref (am 14), .ref (am 15), .ref (am 16), .ref (am 17), .int 0, .ref (am 18), .ref (am 19), .ref (am 20)])), ((am 9), .inl (k 0, 8, .inl (fun _ => 0))), ((am 1), .inl (k 0, 8, .inl f_10)), ((am 2), .inl (k 0, 8, .inl f_11)), ((am 3), .inl (k 0, 8, .inl f_12)), ((am 4), .inl (k 4, 8, .inr (.inr (.inr (.inr gr))))), (ri, .inl (k 1, 40, .inr (.inl f_40)))] := by subst ef_40; exact hD
        refine lv_iinc (v := 14) (lv' := [(4, .int 14), (0, .ref hm), (1, .int sv), (2, .int so), (3, .int nv)]) hx hb dX7_row_84 hl (k := 0) rfl (by decide) (by decide) rfl (fun ls hl => ?_)
        refine lv_goto (tgt := 67) hx hb dX7_row_87 (by decide) ?_
        refine lv_iload hx hb dX7_row_67 (lv_at hl 0 rfl) ?_
        refine lv_bipush (v := 40) hx hb dX7_row_69 (by decide) ?_
        refine lv_icmp_ge (tgt := 90) hx hb dX7_row_71 (by decide) (fun c_41 => absurd c_41 (by decide)) (fun c_41 => ?_)
        refine lv_aload_n hx hb dX7_row_74 rfl (lv_at hl 1 rfl) ?_
        refine va_get (D := D) (ci := 5) (v := .ref (am 4)) (C := RX7) (T := TX7) (N := 37) hx hb hT iw_TX7 hown hK.1 hP 0 rfl rfl 3 (by decide) (hT _ wd_933) (fun _ h9 => h9) rfl dX7_row_75 ?_
        refine lv_iload_n hx hb dX7_row_78 rfl (lv_at hl 2 rfl) ?_
        refine gx_aldA hx hb hK.1 hP 5 4 rfl rfl (gx_vb c_1 (by decide) (by decide)) dX7_row_79 ?_
        refine gx_csr (v := .ref ri) (congrArg va_rf (hf c_1)) ?_
        refine lv_iload hx hb dX7_row_80 (lv_at hl 0 rfl) ?_
        refine lv_lconst (v := 0) hx hb dX7_row_82 (by decide) ?_
        refine va_last hx hb hK.1 hP hD hS 6 1 rfl rfl (gx_vin rfl) dX7_row_83 (fun H locs hP hD hS => ?_)
        obtain ⟨f_42, ef_42⟩ : ∃ f9, f9 = vp_updL f_40 (14 : Int32).toNatClampNeg (0 : Int64) := ⟨_, rfl⟩
        have hP : va_P D gx_cl [(hm, .inr (5, [.ref (am 1), .ref (am 2), .ref (am 3), .ref (am 4), .ref (am 5), .ref (am 6), .ref (am 7), .ref (am 8), .int 0, .ref (am 9), .int 0, .ref (am 10), .int 0, .ref (am 11), .ref (am 12), .int 0, .int 0, .int 1, .null, .null, .int 0, .int 0, .int 0, .long 0, .int 0, .ref (am 13), .int 0, .int 0, .int 0, .ref (am 14), .ref (am 15), .ref (am 16), .ref (am 17), .int 0, .ref (am 18), .ref (am 19), .ref (am 20)])), ((am 9), .inl (k 0, 8, .inl (fun _ => 0))), ((am 1), .inl (k 0, 8, .inl f_10)), ((am 2), .inl (k 0, 8, .inl f_11)), ((am 3), .inl (k 0, 8, .inl f_12)), ((am 4), .inl (k 4, 8, .inr (.inr (.inr (.inr gr))))), (ri, .inl (k 1, 40, .inr (.inl f_42)))] H := by subst ef_42; exact hP
        have hD : va_D A [(hm, .inr (5, [.ref (am 1), .ref (am 2), .ref (am 3), .ref (am 4), .ref (am 5), .ref (am 6), .ref (am 7), .ref (am 8), .int 0, .ref (am 9), .int 0, .ref (am 10), .int 0, .ref (am 11), .ref (am 12), .int 0, .int 0, .int 1, .null, .null, .int 0, .int 0, .int 0, .long 0, .int 0, .ref (am 13), .int 0, .int 0, .int 0, .ref (am 14), .ref (am 15), .ref (am 16), .ref (am 17), .int 0, .ref (am 18), .ref (am 19), .ref (am 20)])), ((am 9), .inl (k 0, 8, .inl (fun _ => 0))), ((am 1), .inl (k 0, 8, .inl f_10)), ((am 2), .inl (k 0, 8, .inl f_11)), ((am 3), .inl (k 0, 8, .inl f_12)), ((am 4), .inl (k 4, 8, .inr (.inr (.inr (.inr gr))))), (ri, .inl (k 1, 40, .inr (.inl f_42)))] := by subst ef_42; exact hD
        refine lv_iinc (v := 15) (lv' := [(4, .int 15), (0, .ref hm), (1, .int sv), (2, .int so), (3, .int nv)]) hx hb dX7_row_84 hl (k := 0) rfl (by decide) (by decide) rfl (fun ls hl => ?_)
        refine lv_goto (tgt := 67) hx hb dX7_row_87 (by decide) ?_
        refine lv_iload hx hb dX7_row_67 (lv_at hl 0 rfl) ?_
        refine lv_bipush (v := 40) hx hb dX7_row_69 (by decide) ?_
        refine lv_icmp_ge (tgt := 90) hx hb dX7_row_71 (by decide) (fun c_43 => absurd c_43 (by decide)) (fun c_43 => ?_)
        refine lv_aload_n hx hb dX7_row_74 rfl (lv_at hl 1 rfl) ?_
        refine va_get (D := D) (ci := 5) (v := .ref (am 4)) (C := RX7) (T := TX7) (N := 37) hx hb hT iw_TX7 hown hK.1 hP 0 rfl rfl 3 (by decide) (hT _ wd_933) (fun _ h9 => h9) rfl dX7_row_75 ?_
        refine lv_iload_n hx hb dX7_row_78 rfl (lv_at hl 2 rfl) ?_
        refine gx_aldA hx hb hK.1 hP 5 4 rfl rfl (gx_vb c_1 (by decide) (by decide)) dX7_row_79 ?_
        refine gx_csr (v := .ref ri) (congrArg va_rf (hf c_1)) ?_
        refine lv_iload hx hb dX7_row_80 (lv_at hl 0 rfl) ?_
        refine lv_lconst (v := 0) hx hb dX7_row_82 (by decide) ?_
        refine va_last hx hb hK.1 hP hD hS 6 1 rfl rfl (gx_vin rfl) dX7_row_83 (fun H locs hP hD hS => ?_)
        obtain ⟨f_44, ef_44⟩ : ∃ f9, f9 = vp_updL f_42 (15 : Int32).toNatClampNeg (0 : Int64) := ⟨_, rfl⟩
        have hP : va_P D gx_cl [(hm, .inr (5, [.ref (am 1), .ref (am 2), .ref (am 3), .ref (am 4), .ref (am 5), .ref (am 6), .ref (am 7), .ref (am 8), .int 0, .ref (am 9), .int 0, .ref (am 10), .int 0, .ref (am 11), .ref (am 12), .int 0, .int 0, .int 1, .null, .null, .int 0, .int 0, .int 0, .long 0, .int 0, .ref (am 13), .int 0, .int 0, .int 0, .ref (am 14), .ref (am 15), .ref (am 16), .ref (am 17), .int 0, .ref (am 18), .ref (am 19), .ref (am 20)])), ((am 9), .inl (k 0, 8, .inl (fun _ => 0))), ((am 1), .inl (k 0, 8, .inl f_10)), ((am 2), .inl (k 0, 8, .inl f_11)), ((am 3), .inl (k 0, 8, .inl f_12)), ((am 4), .inl (k 4, 8, .inr (.inr (.inr (.inr gr))))), (ri, .inl (k 1, 40, .inr (.inl f_44)))] H := by subst ef_44; exact hP
        have hD : va_D A [(hm, .inr (5, [.ref (am 1), .ref (am 2), .ref (am 3), .ref (am 4), .ref (am 5), .ref (am 6), .ref (am 7), .ref (am 8), .int 0, .ref (am 9), .int 0, .ref (am 10), .int 0, .ref (am 11), .ref (am 12), .int 0, .int 0, .int 1, .null, .null, .int 0, .int 0, .int 0, .long 0, .int 0, .ref (am 13), .int 0, .int 0, .int 0, .ref (am 14), .ref (am 15), .ref (am 16), .ref (am 17), .int 0, .ref (am 18), .ref (am 19), .ref (am 20)])), ((am 9), .inl (k 0, 8, .inl (fun _ => 0))), ((am 1), .inl (k 0, 8, .inl f_10)), ((am 2), .inl (k 0, 8, .inl f_11)), ((am 3), .inl (k 0, 8, .inl f_12)), ((am 4), .inl (k 4, 8, .inr (.inr (.inr (.inr gr))))), (ri, .inl (k 1, 40, .inr (.inl f_44)))] := by subst ef_44; exact hD
        refine lv_iinc (v := 16) (lv' := [(4, .int 16), (0, .ref hm), (1, .int sv), (2, .int so), (3, .int nv)]) hx hb dX7_row_84 hl (k := 0) rfl (by decide) (by decide) rfl (fun ls hl => ?_)
        refine lv_goto (tgt := 67) hx hb dX7_row_87 (by decide) ?_
        refine lv_iload hx hb dX7_row_67 (lv_at hl 0 rfl) ?_
        refine lv_bipush (v := 40) hx hb dX7_row_69 (by decide) ?_
        refine lv_icmp_ge (tgt := 90) hx hb dX7_row_71 (by decide) (fun c_45 => absurd c_45 (by decide)) (fun c_45 => ?_)
        refine lv_aload_n hx hb dX7_row_74 rfl (lv_at hl 1 rfl) ?_
        refine va_get (D := D) (ci := 5) (v := .ref (am 4)) (C := RX7) (T := TX7) (N := 37) hx hb hT iw_TX7 hown hK.1 hP 0 rfl rfl 3 (by decide) (hT _ wd_933) (fun _ h9 => h9) rfl dX7_row_75 ?_
        refine lv_iload_n hx hb dX7_row_78 rfl (lv_at hl 2 rfl) ?_
        refine gx_aldA hx hb hK.1 hP 5 4 rfl rfl (gx_vb c_1 (by decide) (by decide)) dX7_row_79 ?_
        refine gx_csr (v := .ref ri) (congrArg va_rf (hf c_1)) ?_
        refine lv_iload hx hb dX7_row_80 (lv_at hl 0 rfl) ?_
        refine lv_lconst (v := 0) hx hb dX7_row_82 (by decide) ?_
        refine va_last hx hb hK.1 hP hD hS 6 1 rfl rfl (gx_vin rfl) dX7_row_83 (fun H locs hP hD hS => ?_)
        obtain ⟨f_46, ef_46⟩ : ∃ f9, f9 = vp_updL f_44 (16 : Int32).toNatClampNeg (0 : Int64) := ⟨_, rfl⟩
        have hP : va_P D gx_cl [(hm, .inr (5, [.ref (am 1), .ref (am 2), .ref (am 3), .ref (am 4), .ref (am 5), .ref (am 6), .ref (am 7), .ref (am 8), .int 0, .ref (am 9), .int 0, .ref (am 10), .int 0, .ref (am 11), .ref (am 12), .int 0, .int 0, .int 1, .null, .null, .int 0, .int 0, .int 0, .long 0, .int 0, .ref (am 13), .int 0, .int 0, .int 0, .ref (am 14), .ref (am 15), .ref (am 16), .ref (am 17), .int 0, .ref (am 18), .ref (am 19), .ref (am 20)])), ((am 9), .inl (k 0, 8, .inl (fun _ => 0))), ((am 1), .inl (k 0, 8, .inl f_10)), ((am 2), .inl (k 0, 8, .inl f_11)), ((am 3), .inl (k 0, 8, .inl f_12)), ((am 4), .inl (k 4, 8, .inr (.inr (.inr (.inr gr))))), (ri, .inl (k 1, 40, .inr (.inl f_46)))] H := by subst ef_46; exact hP
        have hD : va_D A [(hm, .inr (5, [.ref (am 1), .ref (am 2), .ref (am 3), .ref (am 4), .ref (am 5), .ref (am 6), .ref (am 7), .ref (am 8), .int 0, .ref (am 9), .int 0, .ref (am 10), .int 0, .ref (am 11), .ref (am 12), .int 0, .int 0, .int 1, .null, .null, .int 0, .int 0, .int 0, .long 0, .int 0, .ref (am 13), .int 0, .int 0, .int 0, .ref (am 14), .ref (am 15), .ref (am 16), .ref (am 17), .int 0, .ref (am 18), .ref (am 19), .ref (am 20)])), ((am 9), .inl (k 0, 8, .inl (fun _ => 0))), ((am 1), .inl (k 0, 8, .inl f_10)), ((am 2), .inl (k 0, 8, .inl f_11)), ((am 3), .inl (k 0, 8, .inl f_12)), ((am 4), .inl (k 4, 8, .inr (.inr (.inr (.inr gr))))), (ri, .inl (k 1, 40, .inr (.inl f_46)))] := by subst ef_46; exact hD
        refine lv_iinc (v := 17) (lv' := [(4, .int 17), (0, .ref hm), (1, .int sv), (2, .int so), (3, .int nv)]) hx hb dX7_row_84 hl (k := 0) rfl (by decide) (by decide) rfl (fun ls hl => ?_)
        refine lv_goto (tgt := 67) hx hb dX7_row_87 (by decide) ?_
        refine lv_iload hx hb dX7_row_67 (lv_at hl 0 rfl) ?_
        refine lv_bipush (v := 40) hx hb dX7_row_69 (by decide) ?_
        refine lv_icmp_ge (tgt := 90) hx hb dX7_row_71 (by decide) (fun c_47 => absurd c_47 (by decide)) (fun c_47 => ?_)
        refine lv_aload_n hx hb dX7_row_74 rfl (lv_at hl 1 rfl) ?_
        refine va_get (D := D) (ci := 5) (v := .ref (am 4)) (C := RX7) (T := TX7) (N := 37) hx hb hT iw_TX7 hown hK.1 hP 0 rfl rfl 3 (by decide) (hT _ wd_933) (fun _ h9 => h9) rfl dX7_row_75 ?_
        refine lv_iload_n hx hb dX7_row_78 rfl (lv_at hl 2 rfl) ?_
        refine gx_aldA hx hb hK.1 hP 5 4 rfl rfl (gx_vb c_1 (by decide) (by decide)) dX7_row_79 ?_
        refine gx_csr (v := .ref ri) (congrArg va_rf (hf c_1)) ?_
        refine lv_iload hx hb dX7_row_80 (lv_at hl 0 rfl) ?_
        refine lv_lconst (v := 0) hx hb dX7_row_82 (by decide) ?_
        refine va_last hx hb hK.1 hP hD hS 6 1 rfl rfl (gx_vin rfl) dX7_row_83 (fun H locs hP hD hS => ?_)
        obtain ⟨f_48, ef_48⟩ : ∃ f9, f9 = vp_updL f_46 (17 : Int32).toNatClampNeg (0 : Int64) := ⟨_, rfl⟩
        have hP : va_P D gx_cl [(hm, .inr (5, [.ref (am 1), .ref (am 2), .ref (am 3), .ref (am 4), .ref (am 5), .ref (am 6), .ref (am 7), .ref (am 8), .int 0, .ref (am 9), .int 0, .ref (am 10), .int 0, .ref (am 11), .ref (am 12), .int 0, .int 0, .int 1, .null, .null, .int 0, .int 0, .int 0, .long 0, .int 0, .ref (am 13), .int 0, .int 0, .int 0, .ref (am 14), .ref (am 15), .ref (am 16), .ref (am 17), .int 0, .ref (am 18), .ref (am 19), .ref (am 20)])), ((am 9), .inl (k 0, 8, .inl (fun _ => 0))), ((am 1), .inl (k 0, 8, .inl f_10)), ((am 2), .inl (k 0, 8, .inl f_11)), ((am 3), .inl (k 0, 8, .inl f_12)), ((am 4), .inl (k 4, 8, .inr (.inr (.inr (.inr gr))))), (ri, .inl (k 1, 40, .inr (.inl f_48)))] H := by subst ef_48; exact hP
        have hD : va_D A [(hm, .inr (5, [.ref (am 1), .ref (am 2), .ref (am 3), .ref (am 4), .ref (am 5), .ref (am 6), .ref (am 7), .ref (am 8), .int 0, .ref (am 9), .int 0, .ref (am 10), .int 0, .ref (am 11), .ref (am 12), .int 0, .int 0, .int 1, .null, .null, .int 0, .int 0, .int 0, .long 0, .int 0, .ref (am 13), .int 0, .int 0, .int 0, .ref (am 14), .ref (am 15), .ref (am 16), .ref (am 17), .int 0, .ref (am 18), .ref (am 19), .ref (am 20)])), ((am 9), .inl (k 0, 8, .inl (fun _ => 0))), ((am 1), .inl (k 0, 8, .inl f_10)), ((am 2), .inl (k 0, 8, .inl f_11)), ((am 3), .inl (k 0, 8, .inl f_12)), ((am 4), .inl (k 4, 8, .inr (.inr (.inr (.inr gr))))), (ri, .inl (k 1, 40, .inr (.inl f_48)))] := by subst ef_48; exact hD
        refine lv_iinc (v := 18) (lv' := [(4, .int 18), (0, .ref hm), (1, .int sv), (2, .int so), (3, .int nv)]) hx hb dX7_row_84 hl (k := 0) rfl (by decide) (by decide) rfl (fun ls hl => ?_)
        refine lv_goto (tgt := 67) hx hb dX7_row_87 (by decide) ?_
        refine lv_iload hx hb dX7_row_67 (lv_at hl 0 rfl) ?_
        refine lv_bipush (v := 40) hx hb dX7_row_69 (by decide) ?_
        refine lv_icmp_ge (tgt := 90) hx hb dX7_row_71 (by decide) (fun c_49 => absurd c_49 (by decide)) (fun c_49 => ?_)
        refine lv_aload_n hx hb dX7_row_74 rfl (lv_at hl 1 rfl) ?_
        refine va_get (D := D) (ci := 5) (v := .ref (am 4)) (C := RX7) (T := TX7) (N := 37) hx hb hT iw_TX7 hown hK.1 hP 0 rfl rfl 3 (by decide) (hT _ wd_933) (fun _ h9 => h9) rfl dX7_row_75 ?_
        refine lv_iload_n hx hb dX7_row_78 rfl (lv_at hl 2 rfl) ?_
        refine gx_aldA hx hb hK.1 hP 5 4 rfl rfl (gx_vb c_1 (by decide) (by decide)) dX7_row_79 ?_
        refine gx_csr (v := .ref ri) (congrArg va_rf (hf c_1)) ?_
        refine lv_iload hx hb dX7_row_80 (lv_at hl 0 rfl) ?_
        refine lv_lconst (v := 0) hx hb dX7_row_82 (by decide) ?_
        refine va_last hx hb hK.1 hP hD hS 6 1 rfl rfl (gx_vin rfl) dX7_row_83 (fun H locs hP hD hS => ?_)
        obtain ⟨f_50, ef_50⟩ : ∃ f9, f9 = vp_updL f_48 (18 : Int32).toNatClampNeg (0 : Int64) := ⟨_, rfl⟩
        have hP : va_P D gx_cl [(hm, .inr (5, [.ref (am 1), .ref (am 2), .ref (am 3), .ref (am 4), .ref (am 5), .ref (am 6), .ref (am 7), .ref (am 8), .int 0, .ref (am 9), .int 0, .ref (am 10), .int 0, .ref (am 11), .ref (am 12), .int 0, .int 0, .int 1, .null, .null, .int 0, .int 0, .int 0, .long 0, .int 0, .ref (am 13), .int 0, .int 0, .int 0, .ref (am 14), .ref (am 15), .ref (am 16), .ref (am 17), .int 0, .ref (am 18), .ref (am 19), .ref (am 20)])), ((am 9), .inl (k 0, 8, .inl (fun _ => 0))), ((am 1), .inl (k 0, 8, .inl f_10)), ((am 2), .inl (k 0, 8, .inl f_11)), ((am 3), .inl (k 0, 8, .inl f_12)), ((am 4), .inl (k 4, 8, .inr (.inr (.inr (.inr gr))))), (ri, .inl (k 1, 40, .inr (.inl f_50)))] H := by subst ef_50; exact hP
        have hD : va_D A [(hm, .inr (5, [.ref (am 1), .ref (am 2), .ref (am 3), .ref (am 4), .ref (am 5), .ref (am 6), .ref (am 7), .ref (am 8), .int 0, .ref (am 9), .int 0, .ref (am 10), .int 0, .ref (am 11), .ref (am 12), .int 0, .int 0, .int 1, .null, .null, .int 0, .int 0, .int 0, .long 0, .int 0, .ref (am 13), .int 0, .int 0, .int 0, .ref (am 14), .ref (am 15), .ref (am 16), .ref (am 17), .int 0, .ref (am 18), .ref (am 19), .ref (am 20)])), ((am 9), .inl (k 0, 8, .inl (fun _ => 0))), ((am 1), .inl (k 0, 8, .inl f_10)), ((am 2), .inl (k 0, 8, .inl f_11)), ((am 3), .inl (k 0, 8, .inl f_12)), ((am 4), .inl (k 4, 8, .inr (.inr (.inr (.inr gr))))), (ri, .inl (k 1, 40, .inr (.inl f_50)))] := by subst ef_50; exact hD
        refine lv_iinc (v := 19) (lv' := [(4, .int 19), (0, .ref hm), (1, .int sv), (2, .int so), (3, .int nv)]) hx hb dX7_row_84 hl (k := 0) rfl (by decide) (by decide) rfl (fun ls hl => ?_)
        refine lv_goto (tgt := 67) hx hb dX7_row_87 (by decide) ?_
        refine lv_iload hx hb dX7_row_67 (lv_at hl 0 rfl) ?_
        refine lv_bipush (v := 40) hx hb dX7_row_69 (by decide) ?_
        refine lv_icmp_ge (tgt := 90) hx hb dX7_row_71 (by decide) (fun c_51 => absurd c_51 (by decide)) (fun c_51 => ?_)
        refine lv_aload_n hx hb dX7_row_74 rfl (lv_at hl 1 rfl) ?_
        refine va_get (D := D) (ci := 5) (v := .ref (am 4)) (C := RX7) (T := TX7) (N := 37) hx hb hT iw_TX7 hown hK.1 hP 0 rfl rfl 3 (by decide) (hT _ wd_933) (fun _ h9 => h9) rfl dX7_row_75 ?_
        refine lv_iload_n hx hb dX7_row_78 rfl (lv_at hl 2 rfl) ?_
        refine gx_aldA hx hb hK.1 hP 5 4 rfl rfl (gx_vb c_1 (by decide) (by decide)) dX7_row_79 ?_
        refine gx_csr (v := .ref ri) (congrArg va_rf (hf c_1)) ?_
        refine lv_iload hx hb dX7_row_80 (lv_at hl 0 rfl) ?_
        refine lv_lconst (v := 0) hx hb dX7_row_82 (by decide) ?_
        refine va_last hx hb hK.1 hP hD hS 6 1 rfl rfl (gx_vin rfl) dX7_row_83 (fun H locs hP hD hS => ?_)
        obtain ⟨f_52, ef_52⟩ : ∃ f9, f9 = vp_updL f_50 (19 : Int32).toNatClampNeg (0 : Int64) := ⟨_, rfl⟩
        have hP : va_P D gx_cl [(hm, .inr (5, [.ref (am 1), .ref (am 2), .ref (am 3), .ref (am 4), .ref (am 5), .ref (am 6), .ref (am 7), .ref (am 8), .int 0, .ref (am 9), .int 0, .ref (am 10), .int 0, .ref (am 11), .ref (am 12), .int 0, .int 0, .int 1, .null, .null, .int 0, .int 0, .int 0, .long 0, .int 0, .ref (am 13), .int 0, .int 0, .int 0, .ref (am 14), .ref (am 15), .ref (am 16), .ref (am 17), .int 0, .ref (am 18), .ref (am 19), .ref (am 20)])), ((am 9), .inl (k 0, 8, .inl (fun _ => 0))), ((am 1), .inl (k 0, 8, .inl f_10)), ((am 2), .inl (k 0, 8, .inl f_11)), ((am 3), .inl (k 0, 8, .inl f_12)), ((am 4), .inl (k 4, 8, .inr (.inr (.inr (.inr gr))))), (ri, .inl (k 1, 40, .inr (.inl f_52)))] H := by subst ef_52; exact hP
        have hD : va_D A [(hm, .inr (5, [.ref (am 1), .ref (am 2), .ref (am 3), .ref (am 4), .ref (am 5), .ref (am 6), .ref (am 7), .ref (am 8), .int 0, .ref (am 9), .int 0, .ref (am 10), .int 0, .ref (am 11), .ref (am 12), .int 0, .int 0, .int 1, .null, .null, .int 0, .int 0, .int 0, .long 0, .int 0, .ref (am 13), .int 0, .int 0, .int 0, .ref (am 14), .ref (am 15), .ref (am 16), .ref (am 17), .int 0, .ref (am 18), .ref (am 19), .ref (am 20)])), ((am 9), .inl (k 0, 8, .inl (fun _ => 0))), ((am 1), .inl (k 0, 8, .inl f_10)), ((am 2), .inl (k 0, 8, .inl f_11)), ((am 3), .inl (k 0, 8, .inl f_12)), ((am 4), .inl (k 4, 8, .inr (.inr (.inr (.inr gr))))), (ri, .inl (k 1, 40, .inr (.inl f_52)))] := by subst ef_52; exact hD
        refine lv_iinc (v := 20) (lv' := [(4, .int 20), (0, .ref hm), (1, .int sv), (2, .int so), (3, .int nv)]) hx hb dX7_row_84 hl (k := 0) rfl (by decide) (by decide) rfl (fun ls hl => ?_)
        refine lv_goto (tgt := 67) hx hb dX7_row_87 (by decide) ?_
        refine lv_iload hx hb dX7_row_67 (lv_at hl 0 rfl) ?_
        refine lv_bipush (v := 40) hx hb dX7_row_69 (by decide) ?_
        refine lv_icmp_ge (tgt := 90) hx hb dX7_row_71 (by decide) (fun c_53 => absurd c_53 (by decide)) (fun c_53 => ?_)
        refine lv_aload_n hx hb dX7_row_74 rfl (lv_at hl 1 rfl) ?_
        refine va_get (D := D) (ci := 5) (v := .ref (am 4)) (C := RX7) (T := TX7) (N := 37) hx hb hT iw_TX7 hown hK.1 hP 0 rfl rfl 3 (by decide) (hT _ wd_933) (fun _ h9 => h9) rfl dX7_row_75 ?_
        refine lv_iload_n hx hb dX7_row_78 rfl (lv_at hl 2 rfl) ?_
        refine gx_aldA hx hb hK.1 hP 5 4 rfl rfl (gx_vb c_1 (by decide) (by decide)) dX7_row_79 ?_
        refine gx_csr (v := .ref ri) (congrArg va_rf (hf c_1)) ?_
        refine lv_iload hx hb dX7_row_80 (lv_at hl 0 rfl) ?_
        refine lv_lconst (v := 0) hx hb dX7_row_82 (by decide) ?_
        refine va_last hx hb hK.1 hP hD hS 6 1 rfl rfl (gx_vin rfl) dX7_row_83 (fun H locs hP hD hS => ?_)
        obtain ⟨f_54, ef_54⟩ : ∃ f9, f9 = vp_updL f_52 (20 : Int32).toNatClampNeg (0 : Int64) := ⟨_, rfl⟩
        have hP : va_P D gx_cl [(hm, .inr (5, [.ref (am 1), .ref (am 2), .ref (am 3), .ref (am 4), .ref (am 5), .ref (am 6), .ref (am 7), .ref (am 8), .int 0, .ref (am 9), .int 0, .ref (am 10), .int 0, .ref (am 11), .ref (am 12), .int 0, .int 0, .int 1, .null, .null, .int 0, .int 0, .int 0, .long 0, .int 0, .ref (am 13), .int 0, .int 0, .int 0, .ref (am 14), .ref (am 15), .ref (am 16), .ref (am 17), .int 0, .ref (am 18), .ref (am 19), .ref (am 20)])), ((am 9), .inl (k 0, 8, .inl (fun _ => 0))), ((am 1), .inl (k 0, 8, .inl f_10)), ((am 2), .inl (k 0, 8, .inl f_11)), ((am 3), .inl (k 0, 8, .inl f_12)), ((am 4), .inl (k 4, 8, .inr (.inr (.inr (.inr gr))))), (ri, .inl (k 1, 40, .inr (.inl f_54)))] H := by subst ef_54; exact hP
        have hD : va_D A [(hm, .inr (5, [.ref (am 1), .ref (am 2), .ref (am 3), .ref (am 4), .ref (am 5), .ref (am 6), .ref (am 7), .ref (am 8), .int 0, .ref (am 9), .int 0, .ref (am 10), .int 0, .ref (am 11), .ref (am 12), .int 0, .int 0, .int 1, .null, .null, .int 0, .int 0, .int 0, .long 0, .int 0, .ref (am 13), .int 0, .int 0, .int 0, .ref (am 14), .ref (am 15), .ref (am 16), .ref (am 17), .int 0, .ref (am 18), .ref (am 19), .ref (am 20)])), ((am 9), .inl (k 0, 8, .inl (fun _ => 0))), ((am 1), .inl (k 0, 8, .inl f_10)), ((am 2), .inl (k 0, 8, .inl f_11)), ((am 3), .inl (k 0, 8, .inl f_12)), ((am 4), .inl (k 4, 8, .inr (.inr (.inr (.inr gr))))), (ri, .inl (k 1, 40, .inr (.inl f_54)))] := by subst ef_54; exact hD
        refine lv_iinc (v := 21) (lv' := [(4, .int 21), (0, .ref hm), (1, .int sv), (2, .int so), (3, .int nv)]) hx hb dX7_row_84 hl (k := 0) rfl (by decide) (by decide) rfl (fun ls hl => ?_)
        refine lv_goto (tgt := 67) hx hb dX7_row_87 (by decide) ?_
        refine lv_iload hx hb dX7_row_67 (lv_at hl 0 rfl) ?_
        refine lv_bipush (v := 40) hx hb dX7_row_69 (by decide) ?_
        refine lv_icmp_ge (tgt := 90) hx hb dX7_row_71 (by decide) (fun c_55 => absurd c_55 (by decide)) (fun c_55 => ?_)
        refine lv_aload_n hx hb dX7_row_74 rfl (lv_at hl 1 rfl) ?_
        refine va_get (D := D) (ci := 5) (v := .ref (am 4)) (C := RX7) (T := TX7) (N := 37) hx hb hT iw_TX7 hown hK.1 hP 0 rfl rfl 3 (by decide) (hT _ wd_933) (fun _ h9 => h9) rfl dX7_row_75 ?_
        refine lv_iload_n hx hb dX7_row_78 rfl (lv_at hl 2 rfl) ?_
        refine gx_aldA hx hb hK.1 hP 5 4 rfl rfl (gx_vb c_1 (by decide) (by decide)) dX7_row_79 ?_
        refine gx_csr (v := .ref ri) (congrArg va_rf (hf c_1)) ?_
        refine lv_iload hx hb dX7_row_80 (lv_at hl 0 rfl) ?_
        refine lv_lconst (v := 0) hx hb dX7_row_82 (by decide) ?_
        refine va_last hx hb hK.1 hP hD hS 6 1 rfl rfl (gx_vin rfl) dX7_row_83 (fun H locs hP hD hS => ?_)
        obtain ⟨f_56, ef_56⟩ : ∃ f9, f9 = vp_updL f_54 (21 : Int32).toNatClampNeg (0 : Int64) := ⟨_, rfl⟩
        have hP : va_P D gx_cl [(hm, .inr (5, [.ref (am 1), .ref (am 2), .ref (am 3), .ref (am 4), .ref (am 5), .ref (am 6), .ref (am 7), .ref (am 8), .int 0, .ref (am 9), .int 0, .ref (am 10), .int 0, .ref (am 11), .ref (am 12), .int 0, .int 0, .int 1, .null, .null, .int 0, .int 0, .int 0, .long 0, .int 0, .ref (am 13), .int 0, .int 0, .int 0, .ref (am 14), .ref (am 15), .ref (am 16), .ref (am 17), .int 0, .ref (am 18), .ref (am 19), .ref (am 20)])), ((am 9), .inl (k 0, 8, .inl (fun _ => 0))), ((am 1), .inl (k 0, 8, .inl f_10)), ((am 2), .inl (k 0, 8, .inl f_11)), ((am 3), .inl (k 0, 8, .inl f_12)), ((am 4), .inl (k 4, 8, .inr (.inr (.inr (.inr gr))))), (ri, .inl (k 1, 40, .inr (.inl f_56)))] H := by subst ef_56; exact hP
        have hD : va_D A [(hm, .inr (5, [.ref (am 1), .ref (am 2), .ref (am 3), .ref (am 4), .ref (am 5), .ref (am 6), .ref (am 7), .ref (am 8), .int 0, .ref (am 9), .int 0, .ref (am 10), .int 0, .ref (am 11), .ref (am 12), .int 0, .int 0, .int 1, .null, .null, .int 0, .int 0, .int 0, .long 0, .int 0, .ref (am 13), .int 0, .int 0, .int 0, .ref (am 14), .ref (am 15), .ref (am 16), .ref (am 17), .int 0, .ref (am 18), .ref (am 19), .ref (am 20)])), ((am 9), .inl (k 0, 8, .inl (fun _ => 0))), ((am 1), .inl (k 0, 8, .inl f_10)), ((am 2), .inl (k 0, 8, .inl f_11)), ((am 3), .inl (k 0, 8, .inl f_12)), ((am 4), .inl (k 4, 8, .inr (.inr (.inr (.inr gr))))), (ri, .inl (k 1, 40, .inr (.inl f_56)))] := by subst ef_56; exact hD
        refine lv_iinc (v := 22) (lv' := [(4, .int 22), (0, .ref hm), (1, .int sv), (2, .int so), (3, .int nv)]) hx hb dX7_row_84 hl (k := 0) rfl (by decide) (by decide) rfl (fun ls hl => ?_)
        refine lv_goto (tgt := 67) hx hb dX7_row_87 (by decide) ?_
        refine lv_iload hx hb dX7_row_67 (lv_at hl 0 rfl) ?_
        refine lv_bipush (v := 40) hx hb dX7_row_69 (by decide) ?_
        refine lv_icmp_ge (tgt := 90) hx hb dX7_row_71 (by decide) (fun c_57 => absurd c_57 (by decide)) (fun c_57 => ?_)
        refine lv_aload_n hx hb dX7_row_74 rfl (lv_at hl 1 rfl) ?_
        refine va_get (D := D) (ci := 5) (v := .ref (am 4)) (C := RX7) (T := TX7) (N := 37) hx hb hT iw_TX7 hown hK.1 hP 0 rfl rfl 3 (by decide) (hT _ wd_933) (fun _ h9 => h9) rfl dX7_row_75 ?_
        refine lv_iload_n hx hb dX7_row_78 rfl (lv_at hl 2 rfl) ?_
        refine gx_aldA hx hb hK.1 hP 5 4 rfl rfl (gx_vb c_1 (by decide) (by decide)) dX7_row_79 ?_
        refine gx_csr (v := .ref ri) (congrArg va_rf (hf c_1)) ?_
        refine lv_iload hx hb dX7_row_80 (lv_at hl 0 rfl) ?_
        refine lv_lconst (v := 0) hx hb dX7_row_82 (by decide) ?_
        refine va_last hx hb hK.1 hP hD hS 6 1 rfl rfl (gx_vin rfl) dX7_row_83 (fun H locs hP hD hS => ?_)
        obtain ⟨f_58, ef_58⟩ : ∃ f9, f9 = vp_updL f_56 (22 : Int32).toNatClampNeg (0 : Int64) := ⟨_, rfl⟩
        have hP : va_P D gx_cl [(hm, .inr (5, [.ref (am 1), .ref (am 2), .ref (am 3), .ref (am 4), .ref (am 5), .ref (am 6), .ref (am 7), .ref (am 8), .int 0, .ref (am 9), .int 0, .ref (am 10), .int 0, .ref (am 11), .ref (am 12), .int 0, .int 0, .int 1, .null, .null, .int 0, .int 0, .int 0, .long 0, .int 0, .ref (am 13), .int 0, .int 0, .int 0, .ref (am 14), .ref (am 15), .ref (am 16), .ref (am 17), .int 0, .ref (am 18), .ref (am 19), .ref (am 20)])), ((am 9), .inl (k 0, 8, .inl (fun _ => 0))), ((am 1), .inl (k 0, 8, .inl f_10)), ((am 2), .inl (k 0, 8, .inl f_11)), ((am 3), .inl (k 0, 8, .inl f_12)), ((am 4), .inl (k 4, 8, .inr (.inr (.inr (.inr gr))))), (ri, .inl (k 1, 40, .inr (.inl f_58)))] H := by subst ef_58; exact hP
        have hD : va_D A [(hm, .inr (5, [.ref (am 1), .ref (am 2), .ref (am 3), .ref (am 4), .ref (am 5), .ref (am 6), .ref (am 7), .ref (am 8), .int 0, .ref (am 9), .int 0, .ref (am 10), .int 0, .ref (am 11), .ref (am 12), .int 0, .int 0, .int 1, .null, .null, .int 0, .int 0, .int 0, .long 0, .int 0, .ref (am 13), .int 0, .int 0, .int 0, .ref (am 14), .ref (am 15), .ref (am 16), .ref (am 17), .int 0, .ref (am 18), .ref (am 19), .ref (am 20)])), ((am 9), .inl (k 0, 8, .inl (fun _ => 0))), ((am 1), .inl (k 0, 8, .inl f_10)), ((am 2), .inl (k 0, 8, .inl f_11)), ((am 3), .inl (k 0, 8, .inl f_12)), ((am 4), .inl (k 4, 8, .inr (.inr (.inr (.inr gr))))), (ri, .inl (k 1, 40, .inr (.inl f_58)))] := by subst ef_58; exact hD
        refine lv_iinc (v := 23) (lv' := [(4, .int 23), (0, .ref hm), (1, .int sv), (2, .int so), (3, .int nv)]) hx hb dX7_row_84 hl (k := 0) rfl (by decide) (by decide) rfl (fun ls hl => ?_)
        refine lv_goto (tgt := 67) hx hb dX7_row_87 (by decide) ?_
        refine lv_iload hx hb dX7_row_67 (lv_at hl 0 rfl) ?_
        refine lv_bipush (v := 40) hx hb dX7_row_69 (by decide) ?_
        refine lv_icmp_ge (tgt := 90) hx hb dX7_row_71 (by decide) (fun c_59 => absurd c_59 (by decide)) (fun c_59 => ?_)
        refine lv_aload_n hx hb dX7_row_74 rfl (lv_at hl 1 rfl) ?_
        refine va_get (D := D) (ci := 5) (v := .ref (am 4)) (C := RX7) (T := TX7) (N := 37) hx hb hT iw_TX7 hown hK.1 hP 0 rfl rfl 3 (by decide) (hT _ wd_933) (fun _ h9 => h9) rfl dX7_row_75 ?_
        refine lv_iload_n hx hb dX7_row_78 rfl (lv_at hl 2 rfl) ?_
        refine gx_aldA hx hb hK.1 hP 5 4 rfl rfl (gx_vb c_1 (by decide) (by decide)) dX7_row_79 ?_
        refine gx_csr (v := .ref ri) (congrArg va_rf (hf c_1)) ?_
        refine lv_iload hx hb dX7_row_80 (lv_at hl 0 rfl) ?_
        refine lv_lconst (v := 0) hx hb dX7_row_82 (by decide) ?_
        refine va_last hx hb hK.1 hP hD hS 6 1 rfl rfl (gx_vin rfl) dX7_row_83 (fun H locs hP hD hS => ?_)
        obtain ⟨f_60, ef_60⟩ : ∃ f9, f9 = vp_updL f_58 (23 : Int32).toNatClampNeg (0 : Int64) := ⟨_, rfl⟩
        have hP : va_P D gx_cl [(hm, .inr (5, [.ref (am 1), .ref (am 2), .ref (am 3), .ref (am 4), .ref (am 5), .ref (am 6), .ref (am 7), .ref (am 8), .int 0, .ref (am 9), .int 0, .ref (am 10), .int 0, .ref (am 11), .ref (am 12), .int 0, .int 0, .int 1, .null, .null, .int 0, .int 0, .int 0, .long 0, .int 0, .ref (am 13), .int 0, .int 0, .int 0, .ref (am 14), .ref (am 15), .ref (am 16), .ref (am 17), .int 0, .ref (am 18), .ref (am 19), .ref (am 20)])), ((am 9), .inl (k 0, 8, .inl (fun _ => 0))), ((am 1), .inl (k 0, 8, .inl f_10)), ((am 2), .inl (k 0, 8, .inl f_11)), ((am 3), .inl (k 0, 8, .inl f_12)), ((am 4), .inl (k 4, 8, .inr (.inr (.inr (.inr gr))))), (ri, .inl (k 1, 40, .inr (.inl f_60)))] H := by subst ef_60; exact hP
        have hD : va_D A [(hm, .inr (5, [.ref (am 1), .ref (am 2), .ref (am 3), .ref (am 4), .ref (am 5), .ref (am 6), .ref (am 7), .ref (am 8), .int 0, .ref (am 9), .int 0, .ref (am 10), .int 0, .ref (am 11), .ref (am 12), .int 0, .int 0, .int 1, .null, .null, .int 0, .int 0, .int 0, .long 0, .int 0, .ref (am 13), .int 0, .int 0, .int 0, .ref (am 14), .ref (am 15), .ref (am 16), .ref (am 17), .int 0, .ref (am 18), .ref (am 19), .ref (am 20)])), ((am 9), .inl (k 0, 8, .inl (fun _ => 0))), ((am 1), .inl (k 0, 8, .inl f_10)), ((am 2), .inl (k 0, 8, .inl f_11)), ((am 3), .inl (k 0, 8, .inl f_12)), ((am 4), .inl (k 4, 8, .inr (.inr (.inr (.inr gr))))), (ri, .inl (k 1, 40, .inr (.inl f_60)))] := by subst ef_60; exact hD
        refine lv_iinc (v := 24) (lv' := [(4, .int 24), (0, .ref hm), (1, .int sv), (2, .int so), (3, .int nv)]) hx hb dX7_row_84 hl (k := 0) rfl (by decide) (by decide) rfl (fun ls hl => ?_)
        refine lv_goto (tgt := 67) hx hb dX7_row_87 (by decide) ?_
        refine lv_iload hx hb dX7_row_67 (lv_at hl 0 rfl) ?_
        refine lv_bipush (v := 40) hx hb dX7_row_69 (by decide) ?_
        refine lv_icmp_ge (tgt := 90) hx hb dX7_row_71 (by decide) (fun c_61 => absurd c_61 (by decide)) (fun c_61 => ?_)
        refine lv_aload_n hx hb dX7_row_74 rfl (lv_at hl 1 rfl) ?_
        refine va_get (D := D) (ci := 5) (v := .ref (am 4)) (C := RX7) (T := TX7) (N := 37) hx hb hT iw_TX7 hown hK.1 hP 0 rfl rfl 3 (by decide) (hT _ wd_933) (fun _ h9 => h9) rfl dX7_row_75 ?_
        refine lv_iload_n hx hb dX7_row_78 rfl (lv_at hl 2 rfl) ?_
        refine gx_aldA hx hb hK.1 hP 5 4 rfl rfl (gx_vb c_1 (by decide) (by decide)) dX7_row_79 ?_
        refine gx_csr (v := .ref ri) (congrArg va_rf (hf c_1)) ?_
        refine lv_iload hx hb dX7_row_80 (lv_at hl 0 rfl) ?_
        refine lv_lconst (v := 0) hx hb dX7_row_82 (by decide) ?_
        refine va_last hx hb hK.1 hP hD hS 6 1 rfl rfl (gx_vin rfl) dX7_row_83 (fun H locs hP hD hS => ?_)
        obtain ⟨f_62, ef_62⟩ : ∃ f9, f9 = vp_updL f_60 (24 : Int32).toNatClampNeg (0 : Int64) := ⟨_, rfl⟩
        have hP : va_P D gx_cl [(hm, .inr (5, [.ref (am 1), .ref (am 2), .ref (am 3), .ref (am 4), .ref (am 5), .ref (am 6), .ref (am 7), .ref (am 8), .int 0, .ref (am 9), .int 0, .ref (am 10), .int 0, .ref (am 11), .ref (am 12), .int 0, .int 0, .int 1, .null, .null, .int 0, .int 0, .int 0, .long 0, .int 0, .ref (am 13), .int 0, .int 0, .int 0, .ref (am 14), .ref (am 15), .ref (am 16), .ref (am 17), .int 0, .ref (am 18), .ref (am 19), .ref (am 20)])), ((am 9), .inl (k 0, 8, .inl (fun _ => 0))), ((am 1), .inl (k 0, 8, .inl f_10)), ((am 2), .inl (k 0, 8, .inl f_11)), ((am 3), .inl (k 0, 8, .inl f_12)), ((am 4), .inl (k 4, 8, .inr (.inr (.inr (.inr gr))))), (ri, .inl (k 1, 40, .inr (.inl f_62)))] H := by subst ef_62; exact hP
        have hD : va_D A [(hm, .inr (5, [.ref (am 1), .ref (am 2), .ref (am 3), .ref (am 4), .ref (am 5), .ref (am 6), .ref (am 7), .ref (am 8), .int 0, .ref (am 9), .int 0, .ref (am 10), .int 0, .ref (am 11), .ref (am 12), .int 0, .int 0, .int 1, .null, .null, .int 0, .int 0, .int 0, .long 0, .int 0, .ref (am 13), .int 0, .int 0, .int 0, .ref (am 14), .ref (am 15), .ref (am 16), .ref (am 17), .int 0, .ref (am 18), .ref (am 19), .ref (am 20)])), ((am 9), .inl (k 0, 8, .inl (fun _ => 0))), ((am 1), .inl (k 0, 8, .inl f_10)), ((am 2), .inl (k 0, 8, .inl f_11)), ((am 3), .inl (k 0, 8, .inl f_12)), ((am 4), .inl (k 4, 8, .inr (.inr (.inr (.inr gr))))), (ri, .inl (k 1, 40, .inr (.inl f_62)))] := by subst ef_62; exact hD
        refine lv_iinc (v := 25) (lv' := [(4, .int 25), (0, .ref hm), (1, .int sv), (2, .int so), (3, .int nv)]) hx hb dX7_row_84 hl (k := 0) rfl (by decide) (by decide) rfl (fun ls hl => ?_)
        refine lv_goto (tgt := 67) hx hb dX7_row_87 (by decide) ?_
        refine lv_iload hx hb dX7_row_67 (lv_at hl 0 rfl) ?_
        refine lv_bipush (v := 40) hx hb dX7_row_69 (by decide) ?_
        refine lv_icmp_ge (tgt := 90) hx hb dX7_row_71 (by decide) (fun c_63 => absurd c_63 (by decide)) (fun c_63 => ?_)
        refine lv_aload_n hx hb dX7_row_74 rfl (lv_at hl 1 rfl) ?_
        refine va_get (D := D) (ci := 5) (v := .ref (am 4)) (C := RX7) (T := TX7) (N := 37) hx hb hT iw_TX7 hown hK.1 hP 0 rfl rfl 3 (by decide) (hT _ wd_933) (fun _ h9 => h9) rfl dX7_row_75 ?_
        refine lv_iload_n hx hb dX7_row_78 rfl (lv_at hl 2 rfl) ?_
        refine gx_aldA hx hb hK.1 hP 5 4 rfl rfl (gx_vb c_1 (by decide) (by decide)) dX7_row_79 ?_
        refine gx_csr (v := .ref ri) (congrArg va_rf (hf c_1)) ?_
        refine lv_iload hx hb dX7_row_80 (lv_at hl 0 rfl) ?_
        refine lv_lconst (v := 0) hx hb dX7_row_82 (by decide) ?_
        refine va_last hx hb hK.1 hP hD hS 6 1 rfl rfl (gx_vin rfl) dX7_row_83 (fun H locs hP hD hS => ?_)
        obtain ⟨f_64, ef_64⟩ : ∃ f9, f9 = vp_updL f_62 (25 : Int32).toNatClampNeg (0 : Int64) := ⟨_, rfl⟩
        have hP : va_P D gx_cl [(hm, .inr (5, [.ref (am 1), .ref (am 2), .ref (am 3), .ref (am 4), .ref (am 5), .ref (am 6), .ref (am 7), .ref (am 8), .int 0, .ref (am 9), .int 0, .ref (am 10), .int 0, .ref (am 11), .ref (am 12), .int 0, .int 0, .int 1, .null, .null, .int 0, .int 0, .int 0, .long 0, .int 0, .ref (am 13), .int 0, .int 0, .int 0, .ref (am 14), .ref (am 15), .ref (am 16), .ref (am 17), .int 0, .ref (am 18), .ref (am 19), .ref (am 20)])), ((am 9), .inl (k 0, 8, .inl (fun _ => 0))), ((am 1), .inl (k 0, 8, .inl f_10)), ((am 2), .inl (k 0, 8, .inl f_11)), ((am 3), .inl (k 0, 8, .inl f_12)), ((am 4), .inl (k 4, 8, .inr (.inr (.inr (.inr gr))))), (ri, .inl (k 1, 40, .inr (.inl f_64)))] H := by subst ef_64; exact hP
        have hD : va_D A [(hm, .inr (5, [.ref (am 1), .ref (am 2), .ref (am 3), .ref (am 4), .ref (am 5), .ref (am 6), .ref (am 7), .ref (am 8), .int 0, .ref (am 9), .int 0, .ref (am 10), .int 0, .ref (am 11), .ref (am 12), .int 0, .int 0, .int 1, .null, .null, .int 0, .int 0, .int 0, .long 0, .int 0, .ref (am 13), .int 0, .int 0, .int 0, .ref (am 14), .ref (am 15), .ref (am 16), .ref (am 17), .int 0, .ref (am 18), .ref (am 19), .ref (am 20)])), ((am 9), .inl (k 0, 8, .inl (fun _ => 0))), ((am 1), .inl (k 0, 8, .inl f_10)), ((am 2), .inl (k 0, 8, .inl f_11)), ((am 3), .inl (k 0, 8, .inl f_12)), ((am 4), .inl (k 4, 8, .inr (.inr (.inr (.inr gr))))), (ri, .inl (k 1, 40, .inr (.inl f_64)))] := by subst ef_64; exact hD
        refine lv_iinc (v := 26) (lv' := [(4, .int 26), (0, .ref hm), (1, .int sv), (2, .int so), (3, .int nv)]) hx hb dX7_row_84 hl (k := 0) rfl (by decide) (by decide) rfl (fun ls hl => ?_)
        refine lv_goto (tgt := 67) hx hb dX7_row_87 (by decide) ?_
        refine lv_iload hx hb dX7_row_67 (lv_at hl 0 rfl) ?_
        refine lv_bipush (v := 40) hx hb dX7_row_69 (by decide) ?_
        refine lv_icmp_ge (tgt := 90) hx hb dX7_row_71 (by decide) (fun c_65 => absurd c_65 (by decide)) (fun c_65 => ?_)
        refine lv_aload_n hx hb dX7_row_74 rfl (lv_at hl 1 rfl) ?_
        refine va_get (D := D) (ci := 5) (v := .ref (am 4)) (C := RX7) (T := TX7) (N := 37) hx hb hT iw_TX7 hown hK.1 hP 0 rfl rfl 3 (by decide) (hT _ wd_933) (fun _ h9 => h9) rfl dX7_row_75 ?_
        refine lv_iload_n hx hb dX7_row_78 rfl (lv_at hl 2 rfl) ?_
        refine gx_aldA hx hb hK.1 hP 5 4 rfl rfl (gx_vb c_1 (by decide) (by decide)) dX7_row_79 ?_
        refine gx_csr (v := .ref ri) (congrArg va_rf (hf c_1)) ?_
        refine lv_iload hx hb dX7_row_80 (lv_at hl 0 rfl) ?_
        refine lv_lconst (v := 0) hx hb dX7_row_82 (by decide) ?_
        refine va_last hx hb hK.1 hP hD hS 6 1 rfl rfl (gx_vin rfl) dX7_row_83 (fun H locs hP hD hS => ?_)
        obtain ⟨f_66, ef_66⟩ : ∃ f9, f9 = vp_updL f_64 (26 : Int32).toNatClampNeg (0 : Int64) := ⟨_, rfl⟩
        have hP : va_P D gx_cl [(hm, .inr (5, [.ref (am 1), .ref (am 2), .ref (am 3), .ref (am 4), .ref (am 5), .ref (am 6), .ref (am 7), .ref (am 8), .int 0, .ref (am 9), .int 0, .ref (am 10), .int 0, .ref (am 11), .ref (am 12), .int 0, .int 0, .int 1, .null, .null, .int 0, .int 0, .int 0, .long 0, .int 0, .ref (am 13), .int 0, .int 0, .int 0, .ref (am 14), .ref (am 15), .ref (am 16), .ref (am 17), .int 0, .ref (am 18), .ref (am 19), .ref (am 20)])), ((am 9), .inl (k 0, 8, .inl (fun _ => 0))), ((am 1), .inl (k 0, 8, .inl f_10)), ((am 2), .inl (k 0, 8, .inl f_11)), ((am 3), .inl (k 0, 8, .inl f_12)), ((am 4), .inl (k 4, 8, .inr (.inr (.inr (.inr gr))))), (ri, .inl (k 1, 40, .inr (.inl f_66)))] H := by subst ef_66; exact hP
        have hD : va_D A [(hm, .inr (5, [.ref (am 1), .ref (am 2), .ref (am 3), .ref (am 4), .ref (am 5), .ref (am 6), .ref (am 7), .ref (am 8), .int 0, .ref (am 9), .int 0, .ref (am 10), .int 0, .ref (am 11), .ref (am 12), .int 0, .int 0, .int 1, .null, .null, .int 0, .int 0, .int 0, .long 0, .int 0, .ref (am 13), .int 0, .int 0, .int 0, .ref (am 14), .ref (am 15), .ref (am 16), .ref (am 17), .int 0, .ref (am 18), .ref (am 19), .ref (am 20)])), ((am 9), .inl (k 0, 8, .inl (fun _ => 0))), ((am 1), .inl (k 0, 8, .inl f_10)), ((am 2), .inl (k 0, 8, .inl f_11)), ((am 3), .inl (k 0, 8, .inl f_12)), ((am 4), .inl (k 4, 8, .inr (.inr (.inr (.inr gr))))), (ri, .inl (k 1, 40, .inr (.inl f_66)))] := by subst ef_66; exact hD
        refine lv_iinc (v := 27) (lv' := [(4, .int 27), (0, .ref hm), (1, .int sv), (2, .int so), (3, .int nv)]) hx hb dX7_row_84 hl (k := 0) rfl (by decide) (by decide) rfl (fun ls hl => ?_)
        refine lv_goto (tgt := 67) hx hb dX7_row_87 (by decide) ?_
        refine lv_iload hx hb dX7_row_67 (lv_at hl 0 rfl) ?_
        refine lv_bipush (v := 40) hx hb dX7_row_69 (by decide) ?_
        refine lv_icmp_ge (tgt := 90) hx hb dX7_row_71 (by decide) (fun c_67 => absurd c_67 (by decide)) (fun c_67 => ?_)
        refine lv_aload_n hx hb dX7_row_74 rfl (lv_at hl 1 rfl) ?_
        refine va_get (D := D) (ci := 5) (v := .ref (am 4)) (C := RX7) (T := TX7) (N := 37) hx hb hT iw_TX7 hown hK.1 hP 0 rfl rfl 3 (by decide) (hT _ wd_933) (fun _ h9 => h9) rfl dX7_row_75 ?_
        refine lv_iload_n hx hb dX7_row_78 rfl (lv_at hl 2 rfl) ?_
        refine gx_aldA hx hb hK.1 hP 5 4 rfl rfl (gx_vb c_1 (by decide) (by decide)) dX7_row_79 ?_
        refine gx_csr (v := .ref ri) (congrArg va_rf (hf c_1)) ?_
        refine lv_iload hx hb dX7_row_80 (lv_at hl 0 rfl) ?_
        refine lv_lconst (v := 0) hx hb dX7_row_82 (by decide) ?_
        refine va_last hx hb hK.1 hP hD hS 6 1 rfl rfl (gx_vin rfl) dX7_row_83 (fun H locs hP hD hS => ?_)
        obtain ⟨f_68, ef_68⟩ : ∃ f9, f9 = vp_updL f_66 (27 : Int32).toNatClampNeg (0 : Int64) := ⟨_, rfl⟩
        have hP : va_P D gx_cl [(hm, .inr (5, [.ref (am 1), .ref (am 2), .ref (am 3), .ref (am 4), .ref (am 5), .ref (am 6), .ref (am 7), .ref (am 8), .int 0, .ref (am 9), .int 0, .ref (am 10), .int 0, .ref (am 11), .ref (am 12), .int 0, .int 0, .int 1, .null, .null, .int 0, .int 0, .int 0, .long 0, .int 0, .ref (am 13), .int 0, .int 0, .int 0, .ref (am 14), .ref (am 15), .ref (am 16), .ref (am 17), .int 0, .ref (am 18), .ref (am 19), .ref (am 20)])), ((am 9), .inl (k 0, 8, .inl (fun _ => 0))), ((am 1), .inl (k 0, 8, .inl f_10)), ((am 2), .inl (k 0, 8, .inl f_11)), ((am 3), .inl (k 0, 8, .inl f_12)), ((am 4), .inl (k 4, 8, .inr (.inr (.inr (.inr gr))))), (ri, .inl (k 1, 40, .inr (.inl f_68)))] H := by subst ef_68; exact hP
        have hD : va_D A [(hm, .inr (5, [.ref (am 1), .ref (am 2), .ref (am 3), .ref (am 4), .ref (am 5), .ref (am 6), .ref (am 7), .ref (am 8), .int 0, .ref (am 9), .int 0, .ref (am 10), .int 0, .ref (am 11), .ref (am 12), .int 0, .int 0, .int 1, .null, .null, .int 0, .int 0, .int 0, .long 0, .int 0, .ref (am 13), .int 0, .int 0, .int 0, .ref (am 14), .ref (am 15), .ref (am 16), .ref (am 17), .int 0, .ref (am 18), .ref (am 19), .ref (am 20)])), ((am 9), .inl (k 0, 8, .inl (fun _ => 0))), ((am 1), .inl (k 0, 8, .inl f_10)), ((am 2), .inl (k 0, 8, .inl f_11)), ((am 3), .inl (k 0, 8, .inl f_12)), ((am 4), .inl (k 4, 8, .inr (.inr (.inr (.inr gr))))), (ri, .inl (k 1, 40, .inr (.inl f_68)))] := by subst ef_68; exact hD
        refine lv_iinc (v := 28) (lv' := [(4, .int 28), (0, .ref hm), (1, .int sv), (2, .int so), (3, .int nv)]) hx hb dX7_row_84 hl (k := 0) rfl (by decide) (by decide) rfl (fun ls hl => ?_)
        refine lv_goto (tgt := 67) hx hb dX7_row_87 (by decide) ?_
        refine lv_iload hx hb dX7_row_67 (lv_at hl 0 rfl) ?_
        refine lv_bipush (v := 40) hx hb dX7_row_69 (by decide) ?_
        refine lv_icmp_ge (tgt := 90) hx hb dX7_row_71 (by decide) (fun c_69 => absurd c_69 (by decide)) (fun c_69 => ?_)
        refine lv_aload_n hx hb dX7_row_74 rfl (lv_at hl 1 rfl) ?_
        refine va_get (D := D) (ci := 5) (v := .ref (am 4)) (C := RX7) (T := TX7) (N := 37) hx hb hT iw_TX7 hown hK.1 hP 0 rfl rfl 3 (by decide) (hT _ wd_933) (fun _ h9 => h9) rfl dX7_row_75 ?_
        refine lv_iload_n hx hb dX7_row_78 rfl (lv_at hl 2 rfl) ?_
        refine gx_aldA hx hb hK.1 hP 5 4 rfl rfl (gx_vb c_1 (by decide) (by decide)) dX7_row_79 ?_
        refine gx_csr (v := .ref ri) (congrArg va_rf (hf c_1)) ?_
        refine lv_iload hx hb dX7_row_80 (lv_at hl 0 rfl) ?_
        refine lv_lconst (v := 0) hx hb dX7_row_82 (by decide) ?_
        refine va_last hx hb hK.1 hP hD hS 6 1 rfl rfl (gx_vin rfl) dX7_row_83 (fun H locs hP hD hS => ?_)
        obtain ⟨f_70, ef_70⟩ : ∃ f9, f9 = vp_updL f_68 (28 : Int32).toNatClampNeg (0 : Int64) := ⟨_, rfl⟩
        have hP : va_P D gx_cl [(hm, .inr (5, [.ref (am 1), .ref (am 2), .ref (am 3), .ref (am 4), .ref (am 5), .ref (am 6), .ref (am 7), .ref (am 8), .int 0, .ref (am 9), .int 0, .ref (am 10), .int 0, .ref (am 11), .ref (am 12), .int 0, .int 0, .int 1, .null, .null, .int 0, .int 0, .int 0, .long 0, .int 0, .ref (am 13), .int 0, .int 0, .int 0, .ref (am 14), .ref (am 15), .ref (am 16), .ref (am 17), .int 0, .ref (am 18), .ref (am 19), .ref (am 20)])), ((am 9), .inl (k 0, 8, .inl (fun _ => 0))), ((am 1), .inl (k 0, 8, .inl f_10)), ((am 2), .inl (k 0, 8, .inl f_11)), ((am 3), .inl (k 0, 8, .inl f_12)), ((am 4), .inl (k 4, 8, .inr (.inr (.inr (.inr gr))))), (ri, .inl (k 1, 40, .inr (.inl f_70)))] H := by subst ef_70; exact hP
        have hD : va_D A [(hm, .inr (5, [.ref (am 1), .ref (am 2), .ref (am 3), .ref (am 4), .ref (am 5), .ref (am 6), .ref (am 7), .ref (am 8), .int 0, .ref (am 9), .int 0, .ref (am 10), .int 0, .ref (am 11), .ref (am 12), .int 0, .int 0, .int 1, .null, .null, .int 0, .int 0, .int 0, .long 0, .int 0, .ref (am 13), .int 0, .int 0, .int 0, .ref (am 14), .ref (am 15), .ref (am 16), .ref (am 17), .int 0, .ref (am 18), .ref (am 19), .ref (am 20)])), ((am 9), .inl (k 0, 8, .inl (fun _ => 0))), ((am 1), .inl (k 0, 8, .inl f_10)), ((am 2), .inl (k 0, 8, .inl f_11)), ((am 3), .inl (k 0, 8, .inl f_12)), ((am 4), .inl (k 4, 8, .inr (.inr (.inr (.inr gr))))), (ri, .inl (k 1, 40, .inr (.inl f_70)))] := by subst ef_70; exact hD
        refine lv_iinc (v := 29) (lv' := [(4, .int 29), (0, .ref hm), (1, .int sv), (2, .int so), (3, .int nv)]) hx hb dX7_row_84 hl (k := 0) rfl (by decide) (by decide) rfl (fun ls hl => ?_)
        refine lv_goto (tgt := 67) hx hb dX7_row_87 (by decide) ?_
        refine lv_iload hx hb dX7_row_67 (lv_at hl 0 rfl) ?_
        refine lv_bipush (v := 40) hx hb dX7_row_69 (by decide) ?_
        refine lv_icmp_ge (tgt := 90) hx hb dX7_row_71 (by decide) (fun c_71 => absurd c_71 (by decide)) (fun c_71 => ?_)
        refine lv_aload_n hx hb dX7_row_74 rfl (lv_at hl 1 rfl) ?_
        refine va_get (D := D) (ci := 5) (v := .ref (am 4)) (C := RX7) (T := TX7) (N := 37) hx hb hT iw_TX7 hown hK.1 hP 0 rfl rfl 3 (by decide) (hT _ wd_933) (fun _ h9 => h9) rfl dX7_row_75 ?_
        refine lv_iload_n hx hb dX7_row_78 rfl (lv_at hl 2 rfl) ?_
        refine gx_aldA hx hb hK.1 hP 5 4 rfl rfl (gx_vb c_1 (by decide) (by decide)) dX7_row_79 ?_
        refine gx_csr (v := .ref ri) (congrArg va_rf (hf c_1)) ?_
        refine lv_iload hx hb dX7_row_80 (lv_at hl 0 rfl) ?_
        refine lv_lconst (v := 0) hx hb dX7_row_82 (by decide) ?_
        refine va_last hx hb hK.1 hP hD hS 6 1 rfl rfl (gx_vin rfl) dX7_row_83 (fun H locs hP hD hS => ?_)
        obtain ⟨f_72, ef_72⟩ : ∃ f9, f9 = vp_updL f_70 (29 : Int32).toNatClampNeg (0 : Int64) := ⟨_, rfl⟩
        have hP : va_P D gx_cl [(hm, .inr (5, [.ref (am 1), .ref (am 2), .ref (am 3), .ref (am 4), .ref (am 5), .ref (am 6), .ref (am 7), .ref (am 8), .int 0, .ref (am 9), .int 0, .ref (am 10), .int 0, .ref (am 11), .ref (am 12), .int 0, .int 0, .int 1, .null, .null, .int 0, .int 0, .int 0, .long 0, .int 0, .ref (am 13), .int 0, .int 0, .int 0, .ref (am 14), .ref (am 15), .ref (am 16), .ref (am 17), .int 0, .ref (am 18), .ref (am 19), .ref (am 20)])), ((am 9), .inl (k 0, 8, .inl (fun _ => 0))), ((am 1), .inl (k 0, 8, .inl f_10)), ((am 2), .inl (k 0, 8, .inl f_11)), ((am 3), .inl (k 0, 8, .inl f_12)), ((am 4), .inl (k 4, 8, .inr (.inr (.inr (.inr gr))))), (ri, .inl (k 1, 40, .inr (.inl f_72)))] H := by subst ef_72; exact hP
        have hD : va_D A [(hm, .inr (5, [.ref (am 1), .ref (am 2), .ref (am 3), .ref (am 4), .ref (am 5), .ref (am 6), .ref (am 7), .ref (am 8), .int 0, .ref (am 9), .int 0, .ref (am 10), .int 0, .ref (am 11), .ref (am 12), .int 0, .int 0, .int 1, .null, .null, .int 0, .int 0, .int 0, .long 0, .int 0, .ref (am 13), .int 0, .int 0, .int 0, .ref (am 14), .ref (am 15), .ref (am 16), .ref (am 17), .int 0, .ref (am 18), .ref (am 19), .ref (am 20)])), ((am 9), .inl (k 0, 8, .inl (fun _ => 0))), ((am 1), .inl (k 0, 8, .inl f_10)), ((am 2), .inl (k 0, 8, .inl f_11)), ((am 3), .inl (k 0, 8, .inl f_12)), ((am 4), .inl (k 4, 8, .inr (.inr (.inr (.inr gr))))), (ri, .inl (k 1, 40, .inr (.inl f_72)))] := by subst ef_72; exact hD
        refine lv_iinc (v := 30) (lv' := [(4, .int 30), (0, .ref hm), (1, .int sv), (2, .int so), (3, .int nv)]) hx hb dX7_row_84 hl (k := 0) rfl (by decide) (by decide) rfl (fun ls hl => ?_)
        refine lv_goto (tgt := 67) hx hb dX7_row_87 (by decide) ?_
        refine lv_iload hx hb dX7_row_67 (lv_at hl 0 rfl) ?_
        refine lv_bipush (v := 40) hx hb dX7_row_69 (by decide) ?_
        refine lv_icmp_ge (tgt := 90) hx hb dX7_row_71 (by decide) (fun c_73 => absurd c_73 (by decide)) (fun c_73 => ?_)
        refine lv_aload_n hx hb dX7_row_74 rfl (lv_at hl 1 rfl) ?_
        refine va_get (D := D) (ci := 5) (v := .ref (am 4)) (C := RX7) (T := TX7) (N := 37) hx hb hT iw_TX7 hown hK.1 hP 0 rfl rfl 3 (by decide) (hT _ wd_933) (fun _ h9 => h9) rfl dX7_row_75 ?_
        refine lv_iload_n hx hb dX7_row_78 rfl (lv_at hl 2 rfl) ?_
        refine gx_aldA hx hb hK.1 hP 5 4 rfl rfl (gx_vb c_1 (by decide) (by decide)) dX7_row_79 ?_
        refine gx_csr (v := .ref ri) (congrArg va_rf (hf c_1)) ?_
        refine lv_iload hx hb dX7_row_80 (lv_at hl 0 rfl) ?_
        refine lv_lconst (v := 0) hx hb dX7_row_82 (by decide) ?_
        refine va_last hx hb hK.1 hP hD hS 6 1 rfl rfl (gx_vin rfl) dX7_row_83 (fun H locs hP hD hS => ?_)
        obtain ⟨f_74, ef_74⟩ : ∃ f9, f9 = vp_updL f_72 (30 : Int32).toNatClampNeg (0 : Int64) := ⟨_, rfl⟩
        have hP : va_P D gx_cl [(hm, .inr (5, [.ref (am 1), .ref (am 2), .ref (am 3), .ref (am 4), .ref (am 5), .ref (am 6), .ref (am 7), .ref (am 8), .int 0, .ref (am 9), .int 0, .ref (am 10), .int 0, .ref (am 11), .ref (am 12), .int 0, .int 0, .int 1, .null, .null, .int 0, .int 0, .int 0, .long 0, .int 0, .ref (am 13), .int 0, .int 0, .int 0, .ref (am 14), .ref (am 15), .ref (am 16), .ref (am 17), .int 0, .ref (am 18), .ref (am 19), .ref (am 20)])), ((am 9), .inl (k 0, 8, .inl (fun _ => 0))), ((am 1), .inl (k 0, 8, .inl f_10)), ((am 2), .inl (k 0, 8, .inl f_11)), ((am 3), .inl (k 0, 8, .inl f_12)), ((am 4), .inl (k 4, 8, .inr (.inr (.inr (.inr gr))))), (ri, .inl (k 1, 40, .inr (.inl f_74)))] H := by subst ef_74; exact hP
        have hD : va_D A [(hm, .inr (5, [.ref (am 1), .ref (am 2), .ref (am 3), .ref (am 4), .ref (am 5), .ref (am 6), .ref (am 7), .ref (am 8), .int 0, .ref (am 9), .int 0, .ref (am 10), .int 0, .ref (am 11), .ref (am 12), .int 0, .int 0, .int 1, .null, .null, .int 0, .int 0, .int 0, .long 0, .int 0, .ref (am 13), .int 0, .int 0, .int 0, .ref (am 14), .ref (am 15), .ref (am 16), .ref (am 17), .int 0, .ref (am 18), .ref (am 19), .ref (am 20)])), ((am 9), .inl (k 0, 8, .inl (fun _ => 0))), ((am 1), .inl (k 0, 8, .inl f_10)), ((am 2), .inl (k 0, 8, .inl f_11)), ((am 3), .inl (k 0, 8, .inl f_12)), ((am 4), .inl (k 4, 8, .inr (.inr (.inr (.inr gr))))), (ri, .inl (k 1, 40, .inr (.inl f_74)))] := by subst ef_74; exact hD
        refine lv_iinc (v := 31) (lv' := [(4, .int 31), (0, .ref hm), (1, .int sv), (2, .int so), (3, .int nv)]) hx hb dX7_row_84 hl (k := 0) rfl (by decide) (by decide) rfl (fun ls hl => ?_)
        refine lv_goto (tgt := 67) hx hb dX7_row_87 (by decide) ?_
        refine lv_iload hx hb dX7_row_67 (lv_at hl 0 rfl) ?_
        refine lv_bipush (v := 40) hx hb dX7_row_69 (by decide) ?_
        refine lv_icmp_ge (tgt := 90) hx hb dX7_row_71 (by decide) (fun c_75 => absurd c_75 (by decide)) (fun c_75 => ?_)
        refine lv_aload_n hx hb dX7_row_74 rfl (lv_at hl 1 rfl) ?_
        refine va_get (D := D) (ci := 5) (v := .ref (am 4)) (C := RX7) (T := TX7) (N := 37) hx hb hT iw_TX7 hown hK.1 hP 0 rfl rfl 3 (by decide) (hT _ wd_933) (fun _ h9 => h9) rfl dX7_row_75 ?_
        refine lv_iload_n hx hb dX7_row_78 rfl (lv_at hl 2 rfl) ?_
        refine gx_aldA hx hb hK.1 hP 5 4 rfl rfl (gx_vb c_1 (by decide) (by decide)) dX7_row_79 ?_
        refine gx_csr (v := .ref ri) (congrArg va_rf (hf c_1)) ?_
        refine lv_iload hx hb dX7_row_80 (lv_at hl 0 rfl) ?_
        refine lv_lconst (v := 0) hx hb dX7_row_82 (by decide) ?_
        refine va_last hx hb hK.1 hP hD hS 6 1 rfl rfl (gx_vin rfl) dX7_row_83 (fun H locs hP hD hS => ?_)
        obtain ⟨f_76, ef_76⟩ : ∃ f9, f9 = vp_updL f_74 (31 : Int32).toNatClampNeg (0 : Int64) := ⟨_, rfl⟩
        have hP : va_P D gx_cl [(hm, .inr (5, [.ref (am 1), .ref (am 2), .ref (am 3), .ref (am 4), .ref (am 5), .ref (am 6), .ref (am 7), .ref (am 8), .int 0, .ref (am 9), .int 0, .ref (am 10), .int 0, .ref (am 11), .ref (am 12), .int 0, .int 0, .int 1, .null, .null, .int 0, .int 0, .int 0, .long 0, .int 0, .ref (am 13), .int 0, .int 0, .int 0, .ref (am 14), .ref (am 15), .ref (am 16), .ref (am 17), .int 0, .ref (am 18), .ref (am 19), .ref (am 20)])), ((am 9), .inl (k 0, 8, .inl (fun _ => 0))), ((am 1), .inl (k 0, 8, .inl f_10)), ((am 2), .inl (k 0, 8, .inl f_11)), ((am 3), .inl (k 0, 8, .inl f_12)), ((am 4), .inl (k 4, 8, .inr (.inr (.inr (.inr gr))))), (ri, .inl (k 1, 40, .inr (.inl f_76)))] H := by subst ef_76; exact hP
        have hD : va_D A [(hm, .inr (5, [.ref (am 1), .ref (am 2), .ref (am 3), .ref (am 4), .ref (am 5), .ref (am 6), .ref (am 7), .ref (am 8), .int 0, .ref (am 9), .int 0, .ref (am 10), .int 0, .ref (am 11), .ref (am 12), .int 0, .int 0, .int 1, .null, .null, .int 0, .int 0, .int 0, .long 0, .int 0, .ref (am 13), .int 0, .int 0, .int 0, .ref (am 14), .ref (am 15), .ref (am 16), .ref (am 17), .int 0, .ref (am 18), .ref (am 19), .ref (am 20)])), ((am 9), .inl (k 0, 8, .inl (fun _ => 0))), ((am 1), .inl (k 0, 8, .inl f_10)), ((am 2), .inl (k 0, 8, .inl f_11)), ((am 3), .inl (k 0, 8, .inl f_12)), ((am 4), .inl (k 4, 8, .inr (.inr (.inr (.inr gr))))), (ri, .inl (k 1, 40, .inr (.inl f_76)))] := by subst ef_76; exact hD
        refine lv_iinc (v := 32) (lv' := [(4, .int 32), (0, .ref hm), (1, .int sv), (2, .int so), (3, .int nv)]) hx hb dX7_row_84 hl (k := 0) rfl (by decide) (by decide) rfl (fun ls hl => ?_)
        refine lv_goto (tgt := 67) hx hb dX7_row_87 (by decide) ?_
        refine lv_iload hx hb dX7_row_67 (lv_at hl 0 rfl) ?_
        refine lv_bipush (v := 40) hx hb dX7_row_69 (by decide) ?_
        refine lv_icmp_ge (tgt := 90) hx hb dX7_row_71 (by decide) (fun c_77 => absurd c_77 (by decide)) (fun c_77 => ?_)
        refine lv_aload_n hx hb dX7_row_74 rfl (lv_at hl 1 rfl) ?_
        refine va_get (D := D) (ci := 5) (v := .ref (am 4)) (C := RX7) (T := TX7) (N := 37) hx hb hT iw_TX7 hown hK.1 hP 0 rfl rfl 3 (by decide) (hT _ wd_933) (fun _ h9 => h9) rfl dX7_row_75 ?_
        refine lv_iload_n hx hb dX7_row_78 rfl (lv_at hl 2 rfl) ?_
        refine gx_aldA hx hb hK.1 hP 5 4 rfl rfl (gx_vb c_1 (by decide) (by decide)) dX7_row_79 ?_
        refine gx_csr (v := .ref ri) (congrArg va_rf (hf c_1)) ?_
        refine lv_iload hx hb dX7_row_80 (lv_at hl 0 rfl) ?_
        refine lv_lconst (v := 0) hx hb dX7_row_82 (by decide) ?_
        refine va_last hx hb hK.1 hP hD hS 6 1 rfl rfl (gx_vin rfl) dX7_row_83 (fun H locs hP hD hS => ?_)
        obtain ⟨f_78, ef_78⟩ : ∃ f9, f9 = vp_updL f_76 (32 : Int32).toNatClampNeg (0 : Int64) := ⟨_, rfl⟩
        have hP : va_P D gx_cl [(hm, .inr (5, [.ref (am 1), .ref (am 2), .ref (am 3), .ref (am 4), .ref (am 5), .ref (am 6), .ref (am 7), .ref (am 8), .int 0, .ref (am 9), .int 0, .ref (am 10), .int 0, .ref (am 11), .ref (am 12), .int 0, .int 0, .int 1, .null, .null, .int 0, .int 0, .int 0, .long 0, .int 0, .ref (am 13), .int 0, .int 0, .int 0, .ref (am 14), .ref (am 15), .ref (am 16), .ref (am 17), .int 0, .ref (am 18), .ref (am 19), .ref (am 20)])), ((am 9), .inl (k 0, 8, .inl (fun _ => 0))), ((am 1), .inl (k 0, 8, .inl f_10)), ((am 2), .inl (k 0, 8, .inl f_11)), ((am 3), .inl (k 0, 8, .inl f_12)), ((am 4), .inl (k 4, 8, .inr (.inr (.inr (.inr gr))))), (ri, .inl (k 1, 40, .inr (.inl f_78)))] H := by subst ef_78; exact hP
        have hD : va_D A [(hm, .inr (5, [.ref (am 1), .ref (am 2), .ref (am 3), .ref (am 4), .ref (am 5), .ref (am 6), .ref (am 7), .ref (am 8), .int 0, .ref (am 9), .int 0, .ref (am 10), .int 0, .ref (am 11), .ref (am 12), .int 0, .int 0, .int 1, .null, .null, .int 0, .int 0, .int 0, .long 0, .int 0, .ref (am 13), .int 0, .int 0, .int 0, .ref (am 14), .ref (am 15), .ref (am 16), .ref (am 17), .int 0, .ref (am 18), .ref (am 19), .ref (am 20)])), ((am 9), .inl (k 0, 8, .inl (fun _ => 0))), ((am 1), .inl (k 0, 8, .inl f_10)), ((am 2), .inl (k 0, 8, .inl f_11)), ((am 3), .inl (k 0, 8, .inl f_12)), ((am 4), .inl (k 4, 8, .inr (.inr (.inr (.inr gr))))), (ri, .inl (k 1, 40, .inr (.inl f_78)))] := by subst ef_78; exact hD
        refine lv_iinc (v := 33) (lv' := [(4, .int 33), (0, .ref hm), (1, .int sv), (2, .int so), (3, .int nv)]) hx hb dX7_row_84 hl (k := 0) rfl (by decide) (by decide) rfl (fun ls hl => ?_)
        refine lv_goto (tgt := 67) hx hb dX7_row_87 (by decide) ?_
        refine lv_iload hx hb dX7_row_67 (lv_at hl 0 rfl) ?_
        refine lv_bipush (v := 40) hx hb dX7_row_69 (by decide) ?_
        refine lv_icmp_ge (tgt := 90) hx hb dX7_row_71 (by decide) (fun c_79 => absurd c_79 (by decide)) (fun c_79 => ?_)
        refine lv_aload_n hx hb dX7_row_74 rfl (lv_at hl 1 rfl) ?_
        refine va_get (D := D) (ci := 5) (v := .ref (am 4)) (C := RX7) (T := TX7) (N := 37) hx hb hT iw_TX7 hown hK.1 hP 0 rfl rfl 3 (by decide) (hT _ wd_933) (fun _ h9 => h9) rfl dX7_row_75 ?_
        refine lv_iload_n hx hb dX7_row_78 rfl (lv_at hl 2 rfl) ?_
        refine gx_aldA hx hb hK.1 hP 5 4 rfl rfl (gx_vb c_1 (by decide) (by decide)) dX7_row_79 ?_
        refine gx_csr (v := .ref ri) (congrArg va_rf (hf c_1)) ?_
        refine lv_iload hx hb dX7_row_80 (lv_at hl 0 rfl) ?_
        refine lv_lconst (v := 0) hx hb dX7_row_82 (by decide) ?_
        refine va_last hx hb hK.1 hP hD hS 6 1 rfl rfl (gx_vin rfl) dX7_row_83 (fun H locs hP hD hS => ?_)
        obtain ⟨f_80, ef_80⟩ : ∃ f9, f9 = vp_updL f_78 (33 : Int32).toNatClampNeg (0 : Int64) := ⟨_, rfl⟩
        have hP : va_P D gx_cl [(hm, .inr (5, [.ref (am 1), .ref (am 2), .ref (am 3), .ref (am 4), .ref (am 5), .ref (am 6), .ref (am 7), .ref (am 8), .int 0, .ref (am 9), .int 0, .ref (am 10), .int 0, .ref (am 11), .ref (am 12), .int 0, .int 0, .int 1, .null, .null, .int 0, .int 0, .int 0, .long 0, .int 0, .ref (am 13), .int 0, .int 0, .int 0, .ref (am 14), .ref (am 15), .ref (am 16), .ref (am 17), .int 0, .ref (am 18), .ref (am 19), .ref (am 20)])), ((am 9), .inl (k 0, 8, .inl (fun _ => 0))), ((am 1), .inl (k 0, 8, .inl f_10)), ((am 2), .inl (k 0, 8, .inl f_11)), ((am 3), .inl (k 0, 8, .inl f_12)), ((am 4), .inl (k 4, 8, .inr (.inr (.inr (.inr gr))))), (ri, .inl (k 1, 40, .inr (.inl f_80)))] H := by subst ef_80; exact hP
        have hD : va_D A [(hm, .inr (5, [.ref (am 1), .ref (am 2), .ref (am 3), .ref (am 4), .ref (am 5), .ref (am 6), .ref (am 7), .ref (am 8), .int 0, .ref (am 9), .int 0, .ref (am 10), .int 0, .ref (am 11), .ref (am 12), .int 0, .int 0, .int 1, .null, .null, .int 0, .int 0, .int 0, .long 0, .int 0, .ref (am 13), .int 0, .int 0, .int 0, .ref (am 14), .ref (am 15), .ref (am 16), .ref (am 17), .int 0, .ref (am 18), .ref (am 19), .ref (am 20)])), ((am 9), .inl (k 0, 8, .inl (fun _ => 0))), ((am 1), .inl (k 0, 8, .inl f_10)), ((am 2), .inl (k 0, 8, .inl f_11)), ((am 3), .inl (k 0, 8, .inl f_12)), ((am 4), .inl (k 4, 8, .inr (.inr (.inr (.inr gr))))), (ri, .inl (k 1, 40, .inr (.inl f_80)))] := by subst ef_80; exact hD
        refine lv_iinc (v := 34) (lv' := [(4, .int 34), (0, .ref hm), (1, .int sv), (2, .int so), (3, .int nv)]) hx hb dX7_row_84 hl (k := 0) rfl (by decide) (by decide) rfl (fun ls hl => ?_)
        refine lv_goto (tgt := 67) hx hb dX7_row_87 (by decide) ?_
        refine lv_iload hx hb dX7_row_67 (lv_at hl 0 rfl) ?_
        refine lv_bipush (v := 40) hx hb dX7_row_69 (by decide) ?_
        refine lv_icmp_ge (tgt := 90) hx hb dX7_row_71 (by decide) (fun c_81 => absurd c_81 (by decide)) (fun c_81 => ?_)
        refine lv_aload_n hx hb dX7_row_74 rfl (lv_at hl 1 rfl) ?_
        refine va_get (D := D) (ci := 5) (v := .ref (am 4)) (C := RX7) (T := TX7) (N := 37) hx hb hT iw_TX7 hown hK.1 hP 0 rfl rfl 3 (by decide) (hT _ wd_933) (fun _ h9 => h9) rfl dX7_row_75 ?_
        refine lv_iload_n hx hb dX7_row_78 rfl (lv_at hl 2 rfl) ?_
        refine gx_aldA hx hb hK.1 hP 5 4 rfl rfl (gx_vb c_1 (by decide) (by decide)) dX7_row_79 ?_
        refine gx_csr (v := .ref ri) (congrArg va_rf (hf c_1)) ?_
        refine lv_iload hx hb dX7_row_80 (lv_at hl 0 rfl) ?_
        refine lv_lconst (v := 0) hx hb dX7_row_82 (by decide) ?_
        refine va_last hx hb hK.1 hP hD hS 6 1 rfl rfl (gx_vin rfl) dX7_row_83 (fun H locs hP hD hS => ?_)
        obtain ⟨f_82, ef_82⟩ : ∃ f9, f9 = vp_updL f_80 (34 : Int32).toNatClampNeg (0 : Int64) := ⟨_, rfl⟩
        have hP : va_P D gx_cl [(hm, .inr (5, [.ref (am 1), .ref (am 2), .ref (am 3), .ref (am 4), .ref (am 5), .ref (am 6), .ref (am 7), .ref (am 8), .int 0, .ref (am 9), .int 0, .ref (am 10), .int 0, .ref (am 11), .ref (am 12), .int 0, .int 0, .int 1, .null, .null, .int 0, .int 0, .int 0, .long 0, .int 0, .ref (am 13), .int 0, .int 0, .int 0, .ref (am 14), .ref (am 15), .ref (am 16), .ref (am 17), .int 0, .ref (am 18), .ref (am 19), .ref (am 20)])), ((am 9), .inl (k 0, 8, .inl (fun _ => 0))), ((am 1), .inl (k 0, 8, .inl f_10)), ((am 2), .inl (k 0, 8, .inl f_11)), ((am 3), .inl (k 0, 8, .inl f_12)), ((am 4), .inl (k 4, 8, .inr (.inr (.inr (.inr gr))))), (ri, .inl (k 1, 40, .inr (.inl f_82)))] H := by subst ef_82; exact hP
        have hD : va_D A [(hm, .inr (5, [.ref (am 1), .ref (am 2), .ref (am 3), .ref (am 4), .ref (am 5), .ref (am 6), .ref (am 7), .ref (am 8), .int 0, .ref (am 9), .int 0, .ref (am 10), .int 0, .ref (am 11), .ref (am 12), .int 0, .int 0, .int 1, .null, .null, .int 0, .int 0, .int 0, .long 0, .int 0, .ref (am 13), .int 0, .int 0, .int 0, .ref (am 14), .ref (am 15), .ref (am 16), .ref (am 17), .int 0, .ref (am 18), .ref (am 19), .ref (am 20)])), ((am 9), .inl (k 0, 8, .inl (fun _ => 0))), ((am 1), .inl (k 0, 8, .inl f_10)), ((am 2), .inl (k 0, 8, .inl f_11)), ((am 3), .inl (k 0, 8, .inl f_12)), ((am 4), .inl (k 4, 8, .inr (.inr (.inr (.inr gr))))), (ri, .inl (k 1, 40, .inr (.inl f_82)))] := by subst ef_82; exact hD
        refine lv_iinc (v := 35) (lv' := [(4, .int 35), (0, .ref hm), (1, .int sv), (2, .int so), (3, .int nv)]) hx hb dX7_row_84 hl (k := 0) rfl (by decide) (by decide) rfl (fun ls hl => ?_)
        refine lv_goto (tgt := 67) hx hb dX7_row_87 (by decide) ?_
        refine lv_iload hx hb dX7_row_67 (lv_at hl 0 rfl) ?_
        refine lv_bipush (v := 40) hx hb dX7_row_69 (by decide) ?_
        refine lv_icmp_ge (tgt := 90) hx hb dX7_row_71 (by decide) (fun c_83 => absurd c_83 (by decide)) (fun c_83 => ?_)
        refine lv_aload_n hx hb dX7_row_74 rfl (lv_at hl 1 rfl) ?_
        refine va_get (D := D) (ci := 5) (v := .ref (am 4)) (C := RX7) (T := TX7) (N := 37) hx hb hT iw_TX7 hown hK.1 hP 0 rfl rfl 3 (by decide) (hT _ wd_933) (fun _ h9 => h9) rfl dX7_row_75 ?_
        refine lv_iload_n hx hb dX7_row_78 rfl (lv_at hl 2 rfl) ?_
        refine gx_aldA hx hb hK.1 hP 5 4 rfl rfl (gx_vb c_1 (by decide) (by decide)) dX7_row_79 ?_
        refine gx_csr (v := .ref ri) (congrArg va_rf (hf c_1)) ?_
        refine lv_iload hx hb dX7_row_80 (lv_at hl 0 rfl) ?_
        refine lv_lconst (v := 0) hx hb dX7_row_82 (by decide) ?_
        refine va_last hx hb hK.1 hP hD hS 6 1 rfl rfl (gx_vin rfl) dX7_row_83 (fun H locs hP hD hS => ?_)
        obtain ⟨f_84, ef_84⟩ : ∃ f9, f9 = vp_updL f_82 (35 : Int32).toNatClampNeg (0 : Int64) := ⟨_, rfl⟩
        have hP : va_P D gx_cl [(hm, .inr (5, [.ref (am 1), .ref (am 2), .ref (am 3), .ref (am 4), .ref (am 5), .ref (am 6), .ref (am 7), .ref (am 8), .int 0, .ref (am 9), .int 0, .ref (am 10), .int 0, .ref (am 11), .ref (am 12), .int 0, .int 0, .int 1, .null, .null, .int 0, .int 0, .int 0, .long 0, .int 0, .ref (am 13), .int 0, .int 0, .int 0, .ref (am 14), .ref (am 15), .ref (am 16), .ref (am 17), .int 0, .ref (am 18), .ref (am 19), .ref (am 20)])), ((am 9), .inl (k 0, 8, .inl (fun _ => 0))), ((am 1), .inl (k 0, 8, .inl f_10)), ((am 2), .inl (k 0, 8, .inl f_11)), ((am 3), .inl (k 0, 8, .inl f_12)), ((am 4), .inl (k 4, 8, .inr (.inr (.inr (.inr gr))))), (ri, .inl (k 1, 40, .inr (.inl f_84)))] H := by subst ef_84; exact hP
        have hD : va_D A [(hm, .inr (5, [.ref (am 1), .ref (am 2), .ref (am 3), .ref (am 4), .ref (am 5), .ref (am 6), .ref (am 7), .ref (am 8), .int 0, .ref (am 9), .int 0, .ref (am 10), .int 0, .ref (am 11), .ref (am 12), .int 0, .int 0, .int 1, .null, .null, .int 0, .int 0, .int 0, .long 0, .int 0, .ref (am 13), .int 0, .int 0, .int 0, .ref (am 14), .ref (am 15), .ref (am 16), .ref (am 17), .int 0, .ref (am 18), .ref (am 19), .ref (am 20)])), ((am 9), .inl (k 0, 8, .inl (fun _ => 0))), ((am 1), .inl (k 0, 8, .inl f_10)), ((am 2), .inl (k 0, 8, .inl f_11)), ((am 3), .inl (k 0, 8, .inl f_12)), ((am 4), .inl (k 4, 8, .inr (.inr (.inr (.inr gr))))), (ri, .inl (k 1, 40, .inr (.inl f_84)))] := by subst ef_84; exact hD
        refine lv_iinc (v := 36) (lv' := [(4, .int 36), (0, .ref hm), (1, .int sv), (2, .int so), (3, .int nv)]) hx hb dX7_row_84 hl (k := 0) rfl (by decide) (by decide) rfl (fun ls hl => ?_)
        refine lv_goto (tgt := 67) hx hb dX7_row_87 (by decide) ?_
        refine lv_iload hx hb dX7_row_67 (lv_at hl 0 rfl) ?_
        refine lv_bipush (v := 40) hx hb dX7_row_69 (by decide) ?_
        refine lv_icmp_ge (tgt := 90) hx hb dX7_row_71 (by decide) (fun c_85 => absurd c_85 (by decide)) (fun c_85 => ?_)
        refine lv_aload_n hx hb dX7_row_74 rfl (lv_at hl 1 rfl) ?_
        refine va_get (D := D) (ci := 5) (v := .ref (am 4)) (C := RX7) (T := TX7) (N := 37) hx hb hT iw_TX7 hown hK.1 hP 0 rfl rfl 3 (by decide) (hT _ wd_933) (fun _ h9 => h9) rfl dX7_row_75 ?_
        refine lv_iload_n hx hb dX7_row_78 rfl (lv_at hl 2 rfl) ?_
        refine gx_aldA hx hb hK.1 hP 5 4 rfl rfl (gx_vb c_1 (by decide) (by decide)) dX7_row_79 ?_
        refine gx_csr (v := .ref ri) (congrArg va_rf (hf c_1)) ?_
        refine lv_iload hx hb dX7_row_80 (lv_at hl 0 rfl) ?_
        refine lv_lconst (v := 0) hx hb dX7_row_82 (by decide) ?_
        refine va_last hx hb hK.1 hP hD hS 6 1 rfl rfl (gx_vin rfl) dX7_row_83 (fun H locs hP hD hS => ?_)
        obtain ⟨f_86, ef_86⟩ : ∃ f9, f9 = vp_updL f_84 (36 : Int32).toNatClampNeg (0 : Int64) := ⟨_, rfl⟩
        have hP : va_P D gx_cl [(hm, .inr (5, [.ref (am 1), .ref (am 2), .ref (am 3), .ref (am 4), .ref (am 5), .ref (am 6), .ref (am 7), .ref (am 8), .int 0, .ref (am 9), .int 0, .ref (am 10), .int 0, .ref (am 11), .ref (am 12), .int 0, .int 0, .int 1, .null, .null, .int 0, .int 0, .int 0, .long 0, .int 0, .ref (am 13), .int 0, .int 0, .int 0, .ref (am 14), .ref (am 15), .ref (am 16), .ref (am 17), .int 0, .ref (am 18), .ref (am 19), .ref (am 20)])), ((am 9), .inl (k 0, 8, .inl (fun _ => 0))), ((am 1), .inl (k 0, 8, .inl f_10)), ((am 2), .inl (k 0, 8, .inl f_11)), ((am 3), .inl (k 0, 8, .inl f_12)), ((am 4), .inl (k 4, 8, .inr (.inr (.inr (.inr gr))))), (ri, .inl (k 1, 40, .inr (.inl f_86)))] H := by subst ef_86; exact hP
        have hD : va_D A [(hm, .inr (5, [.ref (am 1), .ref (am 2), .ref (am 3), .ref (am 4), .ref (am 5), .ref (am 6), .ref (am 7), .ref (am 8), .int 0, .ref (am 9), .int 0, .ref (am 10), .int 0, .ref (am 11), .ref (am 12), .int 0, .int 0, .int 1, .null, .null, .int 0, .int 0, .int 0, .long 0, .int 0, .ref (am 13), .int 0, .int 0, .int 0, .ref (am 14), .ref (am 15), .ref (am 16), .ref (am 17), .int 0, .ref (am 18), .ref (am 19), .ref (am 20)])), ((am 9), .inl (k 0, 8, .inl (fun _ => 0))), ((am 1), .inl (k 0, 8, .inl f_10)), ((am 2), .inl (k 0, 8, .inl f_11)), ((am 3), .inl (k 0, 8, .inl f_12)), ((am 4), .inl (k 4, 8, .inr (.inr (.inr (.inr gr))))), (ri, .inl (k 1, 40, .inr (.inl f_86)))] := by subst ef_86; exact hD
        refine lv_iinc (v := 37) (lv' := [(4, .int 37), (0, .ref hm), (1, .int sv), (2, .int so), (3, .int nv)]) hx hb dX7_row_84 hl (k := 0) rfl (by decide) (by decide) rfl (fun ls hl => ?_)
        refine lv_goto (tgt := 67) hx hb dX7_row_87 (by decide) ?_
        refine lv_iload hx hb dX7_row_67 (lv_at hl 0 rfl) ?_
        refine lv_bipush (v := 40) hx hb dX7_row_69 (by decide) ?_
        refine lv_icmp_ge (tgt := 90) hx hb dX7_row_71 (by decide) (fun c_87 => absurd c_87 (by decide)) (fun c_87 => ?_)
        refine lv_aload_n hx hb dX7_row_74 rfl (lv_at hl 1 rfl) ?_
        refine va_get (D := D) (ci := 5) (v := .ref (am 4)) (C := RX7) (T := TX7) (N := 37) hx hb hT iw_TX7 hown hK.1 hP 0 rfl rfl 3 (by decide) (hT _ wd_933) (fun _ h9 => h9) rfl dX7_row_75 ?_
        refine lv_iload_n hx hb dX7_row_78 rfl (lv_at hl 2 rfl) ?_
        refine gx_aldA hx hb hK.1 hP 5 4 rfl rfl (gx_vb c_1 (by decide) (by decide)) dX7_row_79 ?_
        refine gx_csr (v := .ref ri) (congrArg va_rf (hf c_1)) ?_
        refine lv_iload hx hb dX7_row_80 (lv_at hl 0 rfl) ?_
        refine lv_lconst (v := 0) hx hb dX7_row_82 (by decide) ?_
        refine va_last hx hb hK.1 hP hD hS 6 1 rfl rfl (gx_vin rfl) dX7_row_83 (fun H locs hP hD hS => ?_)
        obtain ⟨f_88, ef_88⟩ : ∃ f9, f9 = vp_updL f_86 (37 : Int32).toNatClampNeg (0 : Int64) := ⟨_, rfl⟩
        have hP : va_P D gx_cl [(hm, .inr (5, [.ref (am 1), .ref (am 2), .ref (am 3), .ref (am 4), .ref (am 5), .ref (am 6), .ref (am 7), .ref (am 8), .int 0, .ref (am 9), .int 0, .ref (am 10), .int 0, .ref (am 11), .ref (am 12), .int 0, .int 0, .int 1, .null, .null, .int 0, .int 0, .int 0, .long 0, .int 0, .ref (am 13), .int 0, .int 0, .int 0, .ref (am 14), .ref (am 15), .ref (am 16), .ref (am 17), .int 0, .ref (am 18), .ref (am 19), .ref (am 20)])), ((am 9), .inl (k 0, 8, .inl (fun _ => 0))), ((am 1), .inl (k 0, 8, .inl f_10)), ((am 2), .inl (k 0, 8, .inl f_11)), ((am 3), .inl (k 0, 8, .inl f_12)), ((am 4), .inl (k 4, 8, .inr (.inr (.inr (.inr gr))))), (ri, .inl (k 1, 40, .inr (.inl f_88)))] H := by subst ef_88; exact hP
        have hD : va_D A [(hm, .inr (5, [.ref (am 1), .ref (am 2), .ref (am 3), .ref (am 4), .ref (am 5), .ref (am 6), .ref (am 7), .ref (am 8), .int 0, .ref (am 9), .int 0, .ref (am 10), .int 0, .ref (am 11), .ref (am 12), .int 0, .int 0, .int 1, .null, .null, .int 0, .int 0, .int 0, .long 0, .int 0, .ref (am 13), .int 0, .int 0, .int 0, .ref (am 14), .ref (am 15), .ref (am 16), .ref (am 17), .int 0, .ref (am 18), .ref (am 19), .ref (am 20)])), ((am 9), .inl (k 0, 8, .inl (fun _ => 0))), ((am 1), .inl (k 0, 8, .inl f_10)), ((am 2), .inl (k 0, 8, .inl f_11)), ((am 3), .inl (k 0, 8, .inl f_12)), ((am 4), .inl (k 4, 8, .inr (.inr (.inr (.inr gr))))), (ri, .inl (k 1, 40, .inr (.inl f_88)))] := by subst ef_88; exact hD
        refine lv_iinc (v := 38) (lv' := [(4, .int 38), (0, .ref hm), (1, .int sv), (2, .int so), (3, .int nv)]) hx hb dX7_row_84 hl (k := 0) rfl (by decide) (by decide) rfl (fun ls hl => ?_)
        refine lv_goto (tgt := 67) hx hb dX7_row_87 (by decide) ?_
        refine lv_iload hx hb dX7_row_67 (lv_at hl 0 rfl) ?_
        refine lv_bipush (v := 40) hx hb dX7_row_69 (by decide) ?_
        refine lv_icmp_ge (tgt := 90) hx hb dX7_row_71 (by decide) (fun c_89 => absurd c_89 (by decide)) (fun c_89 => ?_)
        refine lv_aload_n hx hb dX7_row_74 rfl (lv_at hl 1 rfl) ?_
        refine va_get (D := D) (ci := 5) (v := .ref (am 4)) (C := RX7) (T := TX7) (N := 37) hx hb hT iw_TX7 hown hK.1 hP 0 rfl rfl 3 (by decide) (hT _ wd_933) (fun _ h9 => h9) rfl dX7_row_75 ?_
        refine lv_iload_n hx hb dX7_row_78 rfl (lv_at hl 2 rfl) ?_
        refine gx_aldA hx hb hK.1 hP 5 4 rfl rfl (gx_vb c_1 (by decide) (by decide)) dX7_row_79 ?_
        refine gx_csr (v := .ref ri) (congrArg va_rf (hf c_1)) ?_
        refine lv_iload hx hb dX7_row_80 (lv_at hl 0 rfl) ?_
        refine lv_lconst (v := 0) hx hb dX7_row_82 (by decide) ?_
        refine va_last hx hb hK.1 hP hD hS 6 1 rfl rfl (gx_vin rfl) dX7_row_83 (fun H locs hP hD hS => ?_)
        obtain ⟨f_90, ef_90⟩ : ∃ f9, f9 = vp_updL f_88 (38 : Int32).toNatClampNeg (0 : Int64) := ⟨_, rfl⟩
        have hP : va_P D gx_cl [(hm, .inr (5, [.ref (am 1), .ref (am 2), .ref (am 3), .ref (am 4), .ref (am 5), .ref (am 6), .ref (am 7), .ref (am 8), .int 0, .ref (am 9), .int 0, .ref (am 10), .int 0, .ref (am 11), .ref (am 12), .int 0, .int 0, .int 1, .null, .null, .int 0, .int 0, .int 0, .long 0, .int 0, .ref (am 13), .int 0, .int 0, .int 0, .ref (am 14), .ref (am 15), .ref (am 16), .ref (am 17), .int 0, .ref (am 18), .ref (am 19), .ref (am 20)])), ((am 9), .inl (k 0, 8, .inl (fun _ => 0))), ((am 1), .inl (k 0, 8, .inl f_10)), ((am 2), .inl (k 0, 8, .inl f_11)), ((am 3), .inl (k 0, 8, .inl f_12)), ((am 4), .inl (k 4, 8, .inr (.inr (.inr (.inr gr))))), (ri, .inl (k 1, 40, .inr (.inl f_90)))] H := by subst ef_90; exact hP
        have hD : va_D A [(hm, .inr (5, [.ref (am 1), .ref (am 2), .ref (am 3), .ref (am 4), .ref (am 5), .ref (am 6), .ref (am 7), .ref (am 8), .int 0, .ref (am 9), .int 0, .ref (am 10), .int 0, .ref (am 11), .ref (am 12), .int 0, .int 0, .int 1, .null, .null, .int 0, .int 0, .int 0, .long 0, .int 0, .ref (am 13), .int 0, .int 0, .int 0, .ref (am 14), .ref (am 15), .ref (am 16), .ref (am 17), .int 0, .ref (am 18), .ref (am 19), .ref (am 20)])), ((am 9), .inl (k 0, 8, .inl (fun _ => 0))), ((am 1), .inl (k 0, 8, .inl f_10)), ((am 2), .inl (k 0, 8, .inl f_11)), ((am 3), .inl (k 0, 8, .inl f_12)), ((am 4), .inl (k 4, 8, .inr (.inr (.inr (.inr gr))))), (ri, .inl (k 1, 40, .inr (.inl f_90)))] := by subst ef_90; exact hD
        refine lv_iinc (v := 39) (lv' := [(4, .int 39), (0, .ref hm), (1, .int sv), (2, .int so), (3, .int nv)]) hx hb dX7_row_84 hl (k := 0) rfl (by decide) (by decide) rfl (fun ls hl => ?_)
        refine lv_goto (tgt := 67) hx hb dX7_row_87 (by decide) ?_
        refine lv_iload hx hb dX7_row_67 (lv_at hl 0 rfl) ?_
        refine lv_bipush (v := 40) hx hb dX7_row_69 (by decide) ?_
        refine lv_icmp_ge (tgt := 90) hx hb dX7_row_71 (by decide) (fun c_91 => absurd c_91 (by decide)) (fun c_91 => ?_)
        refine lv_aload_n hx hb dX7_row_74 rfl (lv_at hl 1 rfl) ?_
        refine va_get (D := D) (ci := 5) (v := .ref (am 4)) (C := RX7) (T := TX7) (N := 37) hx hb hT iw_TX7 hown hK.1 hP 0 rfl rfl 3 (by decide) (hT _ wd_933) (fun _ h9 => h9) rfl dX7_row_75 ?_
        refine lv_iload_n hx hb dX7_row_78 rfl (lv_at hl 2 rfl) ?_
        refine gx_aldA hx hb hK.1 hP 5 4 rfl rfl (gx_vb c_1 (by decide) (by decide)) dX7_row_79 ?_
        refine gx_csr (v := .ref ri) (congrArg va_rf (hf c_1)) ?_
        refine lv_iload hx hb dX7_row_80 (lv_at hl 0 rfl) ?_
        refine lv_lconst (v := 0) hx hb dX7_row_82 (by decide) ?_
        refine va_last hx hb hK.1 hP hD hS 6 1 rfl rfl (gx_vin rfl) dX7_row_83 (fun H locs hP hD hS => ?_)
        obtain ⟨f_92, ef_92⟩ : ∃ f9, f9 = vp_updL f_90 (39 : Int32).toNatClampNeg (0 : Int64) := ⟨_, rfl⟩
        have hP : va_P D gx_cl [(hm, .inr (5, [.ref (am 1), .ref (am 2), .ref (am 3), .ref (am 4), .ref (am 5), .ref (am 6), .ref (am 7), .ref (am 8), .int 0, .ref (am 9), .int 0, .ref (am 10), .int 0, .ref (am 11), .ref (am 12), .int 0, .int 0, .int 1, .null, .null, .int 0, .int 0, .int 0, .long 0, .int 0, .ref (am 13), .int 0, .int 0, .int 0, .ref (am 14), .ref (am 15), .ref (am 16), .ref (am 17), .int 0, .ref (am 18), .ref (am 19), .ref (am 20)])), ((am 9), .inl (k 0, 8, .inl (fun _ => 0))), ((am 1), .inl (k 0, 8, .inl f_10)), ((am 2), .inl (k 0, 8, .inl f_11)), ((am 3), .inl (k 0, 8, .inl f_12)), ((am 4), .inl (k 4, 8, .inr (.inr (.inr (.inr gr))))), (ri, .inl (k 1, 40, .inr (.inl f_92)))] H := by subst ef_92; exact hP
        have hD : va_D A [(hm, .inr (5, [.ref (am 1), .ref (am 2), .ref (am 3), .ref (am 4), .ref (am 5), .ref (am 6), .ref (am 7), .ref (am 8), .int 0, .ref (am 9), .int 0, .ref (am 10), .int 0, .ref (am 11), .ref (am 12), .int 0, .int 0, .int 1, .null, .null, .int 0, .int 0, .int 0, .long 0, .int 0, .ref (am 13), .int 0, .int 0, .int 0, .ref (am 14), .ref (am 15), .ref (am 16), .ref (am 17), .int 0, .ref (am 18), .ref (am 19), .ref (am 20)])), ((am 9), .inl (k 0, 8, .inl (fun _ => 0))), ((am 1), .inl (k 0, 8, .inl f_10)), ((am 2), .inl (k 0, 8, .inl f_11)), ((am 3), .inl (k 0, 8, .inl f_12)), ((am 4), .inl (k 4, 8, .inr (.inr (.inr (.inr gr))))), (ri, .inl (k 1, 40, .inr (.inl f_92)))] := by subst ef_92; exact hD
        refine lv_iinc (v := 40) (lv' := [(4, .int 40), (0, .ref hm), (1, .int sv), (2, .int so), (3, .int nv)]) hx hb dX7_row_84 hl (k := 0) rfl (by decide) (by decide) rfl (fun ls hl => ?_)
        refine lv_goto (tgt := 67) hx hb dX7_row_87 (by decide) ?_
        refine lv_iload hx hb dX7_row_67 (lv_at hl 0 rfl) ?_
        refine lv_bipush (v := 40) hx hb dX7_row_69 (by decide) ?_
        refine lv_icmp_ge (tgt := 90) hx hb dX7_row_71 (by decide) (fun c_93 => ?_) (fun c_93 => absurd (by decide) c_93)
        refine lv_iconst (v := 1) hx hb dX7_row_90 (by decide) ?_
        exact gx_retI C (u := ()) gx_nil gx_noneD hS (by simp [gs_row, c_1, c_4, c_7]) dX7_row_91
      · refine lv_if_ne (tgt := 43) hx hb dX7_row_33 (by decide) (fun c_94 => absurd (by decide) c_94) (fun c_94 => ?_)
        refine lv_aload_n hx hb dX7_row_36 rfl (lv_at hl 0 rfl) ?_
        refine lv_bipush (v := (-2)) hx hb dX7_row_37 (by decide) ?_
        refine gx_ei (wc := ([(hm, .inr (5, [.ref (am 1), .ref (am 2), .ref (am 3), .ref (am 4), .ref (am 5), .ref (am 6), .ref (am 7), .ref (am 8), .int 0, .ref (am 9), .int 0, .ref (am 10), .int 0, .ref (am 11), .ref (am 12), .int 0, .int 0, .int 1, .null, .null, .int 0, .int 0, .int 0, .long 0, .int 0, .ref (am 13), .int 0, .int 0, .int 0, .ref (am 14), .ref (am 15), .ref (am 16), .ref (am 17), .int 0, .ref (am 18), .ref (am 19), .ref (am 20)])), ((am 9), .inl (k 0, 8, .inl (fun _ => 0)))] : va_W)) (wr := [((am 1), .inl (k 0, 8, .inl (fun _ => 0))), ((am 2), .inl (k 0, 8, .inl (fun _ => 0))), ((am 3), .inl (k 0, 8, .inl (fun _ => 0))), ((am 4), .inl (k 4, 8, .inr (.inr (.inr (.inr gr))))), (ri, .inl (k 1, 40, .inr (.inl (fun _ => 0))))]) (isC := [0, 1]) (isR := [2, 3, 4, 5, 6]) hP hD hS hA rfl rfl (by decide) (by decide) (gx_runV (na := 1) (As := [.int (-2)]) (rest := []) (ci := 5) C hl.1 hK (gx_subP (wc := ([(hm, .inr (5, [.ref (am 1), .ref (am 2), .ref (am 3), .ref (am 4), .ref (am 5), .ref (am 6), .ref (am 7), .ref (am 8), .int 0, .ref (am 9), .int 0, .ref (am 10), .int 0, .ref (am 11), .ref (am 12), .int 0, .int 0, .int 1, .null, .null, .int 0, .int 0, .int 0, .long 0, .int 0, .ref (am 13), .int 0, .int 0, .int 0, .ref (am 14), .ref (am 15), .ref (am 16), .ref (am 17), .int 0, .ref (am 18), .ref (am 19), .ref (am 20)])), ((am 9), .inl (k 0, 8, .inl (fun _ => 0)))] : va_W)) hP [0, 1] rfl) ((hD.sub (ws' := ([(hm, .inr (5, [.ref (am 1), .ref (am 2), .ref (am 3), .ref (am 4), .ref (am 5), .ref (am 6), .ref (am 7), .ref (am 8), .int 0, .ref (am 9), .int 0, .ref (am 10), .int 0, .ref (am 11), .ref (am 12), .int 0, .int 0, .int 1, .null, .null, .int 0, .int 0, .int 0, .long 0, .int 0, .ref (am 13), .int 0, .int 0, .int 0, .ref (am 14), .ref (am 15), .ref (am 16), .ref (am 17), .int 0, .ref (am 18), .ref (am 19), .ref (am 20)])), ((am 9), .inl (k 0, 8, .inl (fun _ => 0)))] : va_W)) [0, 1] (by decide) rfl).weaken (fun _ _ _ _ => trivial)) (m_refuse2 l D k hm am .null .null 0 _) gV_RX7_95 (by decide +kernel) rfl rfl ⟨Nat.le_of_ble_eq_true rfl, Nat.le_of_ble_eq_true rfl⟩ rfl rfl rfl rfl (Nat.le_of_ble_eq_true rfl) dX7_row_39 ⟨Nat.le_of_ble_eq_true rfl, Nat.le_of_ble_eq_true rfl⟩) (fun r_97 u_95 H locs h_96 hP hD hS => ?_)
        have h_96 : r_97 = -2 := h_96
        have hP : va_P D gx_cl [((am 1), .inl (k 0, 8, .inl (fun _ => 0))), ((am 2), .inl (k 0, 8, .inl (fun _ => 0))), ((am 3), .inl (k 0, 8, .inl (fun _ => 0))), ((am 4), .inl (k 4, 8, .inr (.inr (.inr (.inr gr))))), (ri, .inl (k 1, 40, .inr (.inl (fun _ => 0))))] H := hP
        have hD : va_D A [((am 1), .inl (k 0, 8, .inl (fun _ => 0))), ((am 2), .inl (k 0, 8, .inl (fun _ => 0))), ((am 3), .inl (k 0, 8, .inl (fun _ => 0))), ((am 4), .inl (k 4, 8, .inr (.inr (.inr (.inr gr))))), (ri, .inl (k 1, 40, .inr (.inl (fun _ => 0))))] := hD
        have eh_96 := h_96
        subst eh_96
        exact gx_retI C (u := ()) gx_nil gx_noneD hS (by simp [gs_row, c_1, c_4, c_7]) dX7_row_42
    · refine lv_if_eq (tgt := 36) hx hb dX7_row_21 (by decide) (fun c_99 => ?_) (fun c_99 => absurd (by decide) c_99)
      refine lv_aload_n hx hb dX7_row_36 rfl (lv_at hl 0 rfl) ?_
      refine lv_bipush (v := (-2)) hx hb dX7_row_37 (by decide) ?_
      refine gx_ei (wc := ([(hm, .inr (5, [.ref (am 1), .ref (am 2), .ref (am 3), .ref (am 4), .ref (am 5), .ref (am 6), .ref (am 7), .ref (am 8), .int 0, .ref (am 9), .int 0, .ref (am 10), .int 0, .ref (am 11), .ref (am 12), .int 0, .int 0, .int 1, .null, .null, .int 0, .int 0, .int 0, .long 0, .int 0, .ref (am 13), .int 0, .int 0, .int 0, .ref (am 14), .ref (am 15), .ref (am 16), .ref (am 17), .int 0, .ref (am 18), .ref (am 19), .ref (am 20)])), ((am 9), .inl (k 0, 8, .inl (fun _ => 0)))] : va_W)) (wr := [((am 1), .inl (k 0, 8, .inl (fun _ => 0))), ((am 2), .inl (k 0, 8, .inl (fun _ => 0))), ((am 3), .inl (k 0, 8, .inl (fun _ => 0))), ((am 4), .inl (k 4, 8, .inr (.inr (.inr (.inr gr))))), (ri, .inl (k 1, 40, .inr (.inl (fun _ => 0))))]) (isC := [0, 1]) (isR := [2, 3, 4, 5, 6]) hP hD hS hA rfl rfl (by decide) (by decide) (gx_runV (na := 1) (As := [.int (-2)]) (rest := []) (ci := 5) C hl.1 hK (gx_subP (wc := ([(hm, .inr (5, [.ref (am 1), .ref (am 2), .ref (am 3), .ref (am 4), .ref (am 5), .ref (am 6), .ref (am 7), .ref (am 8), .int 0, .ref (am 9), .int 0, .ref (am 10), .int 0, .ref (am 11), .ref (am 12), .int 0, .int 0, .int 1, .null, .null, .int 0, .int 0, .int 0, .long 0, .int 0, .ref (am 13), .int 0, .int 0, .int 0, .ref (am 14), .ref (am 15), .ref (am 16), .ref (am 17), .int 0, .ref (am 18), .ref (am 19), .ref (am 20)])), ((am 9), .inl (k 0, 8, .inl (fun _ => 0)))] : va_W)) hP [0, 1] rfl) ((hD.sub (ws' := ([(hm, .inr (5, [.ref (am 1), .ref (am 2), .ref (am 3), .ref (am 4), .ref (am 5), .ref (am 6), .ref (am 7), .ref (am 8), .int 0, .ref (am 9), .int 0, .ref (am 10), .int 0, .ref (am 11), .ref (am 12), .int 0, .int 0, .int 1, .null, .null, .int 0, .int 0, .int 0, .long 0, .int 0, .ref (am 13), .int 0, .int 0, .int 0, .ref (am 14), .ref (am 15), .ref (am 16), .ref (am 17), .int 0, .ref (am 18), .ref (am 19), .ref (am 20)])), ((am 9), .inl (k 0, 8, .inl (fun _ => 0)))] : va_W)) [0, 1] (by decide) rfl).weaken (fun _ _ _ _ => trivial)) (m_refuse2 l D k hm am .null .null 0 _) gV_RX7_95 (by decide +kernel) rfl rfl ⟨Nat.le_of_ble_eq_true rfl, Nat.le_of_ble_eq_true rfl⟩ rfl rfl rfl rfl (Nat.le_of_ble_eq_true rfl) dX7_row_39 ⟨Nat.le_of_ble_eq_true rfl, Nat.le_of_ble_eq_true rfl⟩) (fun r_102 u_100 H locs h_101 hP hD hS => ?_)
      have h_101 : r_102 = -2 := h_101
      have hP : va_P D gx_cl [((am 1), .inl (k 0, 8, .inl (fun _ => 0))), ((am 2), .inl (k 0, 8, .inl (fun _ => 0))), ((am 3), .inl (k 0, 8, .inl (fun _ => 0))), ((am 4), .inl (k 4, 8, .inr (.inr (.inr (.inr gr))))), (ri, .inl (k 1, 40, .inr (.inl (fun _ => 0))))] H := hP
      have hD : va_D A [((am 1), .inl (k 0, 8, .inl (fun _ => 0))), ((am 2), .inl (k 0, 8, .inl (fun _ => 0))), ((am 3), .inl (k 0, 8, .inl (fun _ => 0))), ((am 4), .inl (k 4, 8, .inr (.inr (.inr (.inr gr))))), (ri, .inl (k 1, 40, .inr (.inl (fun _ => 0))))] := hD
      have eh_101 := h_101
      subst eh_101
      exact gx_retI C (u := ()) gx_nil gx_noneD hS (by simp [gs_row, c_1, c_4]) dX7_row_42
  · refine lv_if_eq (tgt := 36) hx hb dX7_row_9 (by decide) (fun c_104 => ?_) (fun c_104 => absurd (by decide) c_104)
    refine lv_aload_n hx hb dX7_row_36 rfl (lv_at hl 0 rfl) ?_
    refine lv_bipush (v := (-2)) hx hb dX7_row_37 (by decide) ?_
    refine gx_ei (wc := ([(hm, .inr (5, [.ref (am 1), .ref (am 2), .ref (am 3), .ref (am 4), .ref (am 5), .ref (am 6), .ref (am 7), .ref (am 8), .int 0, .ref (am 9), .int 0, .ref (am 10), .int 0, .ref (am 11), .ref (am 12), .int 0, .int 0, .int 1, .null, .null, .int 0, .int 0, .int 0, .long 0, .int 0, .ref (am 13), .int 0, .int 0, .int 0, .ref (am 14), .ref (am 15), .ref (am 16), .ref (am 17), .int 0, .ref (am 18), .ref (am 19), .ref (am 20)])), ((am 9), .inl (k 0, 8, .inl (fun _ => 0)))] : va_W)) (wr := [((am 1), .inl (k 0, 8, .inl (fun _ => 0))), ((am 2), .inl (k 0, 8, .inl (fun _ => 0))), ((am 3), .inl (k 0, 8, .inl (fun _ => 0))), ((am 4), .inl (k 4, 8, .inr (.inr (.inr (.inr gr))))), (ri, .inl (k 1, 40, .inr (.inl (fun _ => 0))))]) (isC := [0, 1]) (isR := [2, 3, 4, 5, 6]) hP hD hS hA rfl rfl (by decide) (by decide) (gx_runV (na := 1) (As := [.int (-2)]) (rest := []) (ci := 5) C hl.1 hK (gx_subP (wc := ([(hm, .inr (5, [.ref (am 1), .ref (am 2), .ref (am 3), .ref (am 4), .ref (am 5), .ref (am 6), .ref (am 7), .ref (am 8), .int 0, .ref (am 9), .int 0, .ref (am 10), .int 0, .ref (am 11), .ref (am 12), .int 0, .int 0, .int 1, .null, .null, .int 0, .int 0, .int 0, .long 0, .int 0, .ref (am 13), .int 0, .int 0, .int 0, .ref (am 14), .ref (am 15), .ref (am 16), .ref (am 17), .int 0, .ref (am 18), .ref (am 19), .ref (am 20)])), ((am 9), .inl (k 0, 8, .inl (fun _ => 0)))] : va_W)) hP [0, 1] rfl) ((hD.sub (ws' := ([(hm, .inr (5, [.ref (am 1), .ref (am 2), .ref (am 3), .ref (am 4), .ref (am 5), .ref (am 6), .ref (am 7), .ref (am 8), .int 0, .ref (am 9), .int 0, .ref (am 10), .int 0, .ref (am 11), .ref (am 12), .int 0, .int 0, .int 1, .null, .null, .int 0, .int 0, .int 0, .long 0, .int 0, .ref (am 13), .int 0, .int 0, .int 0, .ref (am 14), .ref (am 15), .ref (am 16), .ref (am 17), .int 0, .ref (am 18), .ref (am 19), .ref (am 20)])), ((am 9), .inl (k 0, 8, .inl (fun _ => 0)))] : va_W)) [0, 1] (by decide) rfl).weaken (fun _ _ _ _ => trivial)) (m_refuse2 l D k hm am .null .null 0 _) gV_RX7_95 (by decide +kernel) rfl rfl ⟨Nat.le_of_ble_eq_true rfl, Nat.le_of_ble_eq_true rfl⟩ rfl rfl rfl rfl (Nat.le_of_ble_eq_true rfl) dX7_row_39 ⟨Nat.le_of_ble_eq_true rfl, Nat.le_of_ble_eq_true rfl⟩) (fun r_107 u_105 H locs h_106 hP hD hS => ?_)
    have h_106 : r_107 = -2 := h_106
    have hP : va_P D gx_cl [((am 1), .inl (k 0, 8, .inl (fun _ => 0))), ((am 2), .inl (k 0, 8, .inl (fun _ => 0))), ((am 3), .inl (k 0, 8, .inl (fun _ => 0))), ((am 4), .inl (k 4, 8, .inr (.inr (.inr (.inr gr))))), (ri, .inl (k 1, 40, .inr (.inl (fun _ => 0))))] H := hP
    have hD : va_D A [((am 1), .inl (k 0, 8, .inl (fun _ => 0))), ((am 2), .inl (k 0, 8, .inl (fun _ => 0))), ((am 3), .inl (k 0, 8, .inl (fun _ => 0))), ((am 4), .inl (k 4, 8, .inr (.inr (.inr (.inr gr))))), (ri, .inl (k 1, 40, .inr (.inl (fun _ => 0))))] := hD
    have eh_106 := h_106
    subst eh_106
    exact gx_retI C (u := ()) gx_nil gx_noneD hS (by simp [gs_row, c_1]) dX7_row_42
set_option maxHeartbeats 4000000 in
set_option maxRecDepth 100000 in
theorem m_set_pub (l : Launch) (D : va_G) (k : Nat → ClassId) (hm : Nat) (am : Nat → Nat) (sv : Int32) (iv : Int32) (lv : Int64) (sz : Nat) : Met l yX7_set (.code yX7_set cX7_set 6 (some .int) :: gx_T) ({ frames := 2, cells := 0, slots := 0, locals := 46 }) (gx_Pre D k [.ref hm, .int sv, .int iv, .long lv] ([(hm, .inr (5, [.ref (am 1), .ref (am 2), .ref (am 3), .ref (am 4), .ref (am 5), .ref (am 6), .ref (am 7), .ref (am 8), .int 0, .ref (am 9), .int 0, .ref (am 10), .int 0, .ref (am 11), .ref (am 12), .int 0, .int 0, .int 1, .null, .null, .int 0, .int 0, .int 0, .long 0, .int 0, .ref (am 13), .int 0, .int 0, .int 0, .ref (am 14), .ref (am 15), .ref (am 16), .ref (am 17), .int 0, .ref (am 18), .ref (am 19), .ref (am 20)])), ((am 9), .inl (k 0, 8, .inl (fun _ => 0))), ((am 1), .inl (k 0, 8, .inl (fun _ => 0)))]) sz) (gx_Qi D (fun (r : Int32) (u : Unit) => r = (gs_set sv)) (fun (u : Unit) => ([] : va_W)) (va_A ([(hm, .inr (5, [.ref (am 1), .ref (am 2), .ref (am 3), .ref (am 4), .ref (am 5), .ref (am 6), .ref (am 7), .ref (am 8), .int 0, .ref (am 9), .int 0, .ref (am 10), .int 0, .ref (am 11), .ref (am 12), .int 0, .int 0, .int 1, .null, .null, .int 0, .int 0, .int 0, .long 0, .int 0, .ref (am 13), .int 0, .int 0, .int 0, .ref (am 14), .ref (am 15), .ref (am 16), .ref (am 17), .int 0, .ref (am 18), .ref (am 19), .ref (am 20)])), ((am 9), .inl (k 0, 8, .inl (fun _ => 0))), ((am 1), .inl (k 0, 8, .inl (fun _ => 0)))]) sz)) 0 0 (va_A ([(hm, .inr (5, [.ref (am 1), .ref (am 2), .ref (am 3), .ref (am 4), .ref (am 5), .ref (am 6), .ref (am 7), .ref (am 8), .int 0, .ref (am 9), .int 0, .ref (am 10), .int 0, .ref (am 11), .ref (am 12), .int 0, .int 0, .int 1, .null, .null, .int 0, .int 0, .int 0, .long 0, .int 0, .ref (am 13), .int 0, .int 0, .int 0, .ref (am 14), .ref (am 15), .ref (am 16), .ref (am 17), .int 0, .ref (am 18), .ref (am 19), .ref (am 20)])), ((am 9), .inl (k 0, 8, .inl (fun _ => 0))), ((am 1), .inl (k 0, 8, .inl (fun _ => 0)))]) sz) := by
  refine gx_metE (Qc := fun A => gx_Qi D (fun (r : Int32) (u : Unit) => r = (gs_set sv)) (fun (u : Unit) => ([] : va_W)) A) (y := yX7_set) (cc := cX7_set) (n := 6) (ret := (some .int)) (av := [.ref hm, .int sv, .int iv, .long lv]) (by decide) (Nat.le_of_ble_eq_true rfl) ?_
  intro p e s m below meth c A ls C hA hP hD hK hS hl
  obtain ⟨hx, hb, hr, hml, hown, hT, hlk, hin⟩ := id C
  have hown : s.vm.findClass RX7 = some m.cls := hown
  have hl : lv_has ls 6 [(0, .ref hm), (1, .int sv), (2, .int iv), (3, .long lv)] := hl
  refine lv_aload_n hx hb dX7_set_0 rfl (lv_at hl 0 rfl) ?_
  refine lv_iload_n hx hb dX7_set_1 rfl (lv_at hl 1 rfl) ?_
  refine gx_ei (wc := ([(hm, .inr (5, [.ref (am 1), .ref (am 2), .ref (am 3), .ref (am 4), .ref (am 5), .ref (am 6), .ref (am 7), .ref (am 8), .int 0, .ref (am 9), .int 0, .ref (am 10), .int 0, .ref (am 11), .ref (am 12), .int 0, .int 0, .int 1, .null, .null, .int 0, .int 0, .int 0, .long 0, .int 0, .ref (am 13), .int 0, .int 0, .int 0, .ref (am 14), .ref (am 15), .ref (am 16), .ref (am 17), .int 0, .ref (am 18), .ref (am 19), .ref (am 20)])), ((am 9), .inl (k 0, 8, .inl (fun _ => 0))), ((am 1), .inl (k 0, 8, .inl (fun _ => 0)))] : va_W)) (wr := []) (isC := [0, 1, 2]) (isR := []) hP hD hS hA rfl rfl (by decide) (by decide) (gx_runV (na := 1) (As := [.int sv]) (rest := []) (ci := 5) C hl.1 hK (gx_subP (wc := ([(hm, .inr (5, [.ref (am 1), .ref (am 2), .ref (am 3), .ref (am 4), .ref (am 5), .ref (am 6), .ref (am 7), .ref (am 8), .int 0, .ref (am 9), .int 0, .ref (am 10), .int 0, .ref (am 11), .ref (am 12), .int 0, .int 0, .int 1, .null, .null, .int 0, .int 0, .int 0, .long 0, .int 0, .ref (am 13), .int 0, .int 0, .int 0, .ref (am 14), .ref (am 15), .ref (am 16), .ref (am 17), .int 0, .ref (am 18), .ref (am 19), .ref (am 20)])), ((am 9), .inl (k 0, 8, .inl (fun _ => 0))), ((am 1), .inl (k 0, 8, .inl (fun _ => 0)))] : va_W)) hP [0, 1, 2] rfl) ((hD.sub (ws' := ([(hm, .inr (5, [.ref (am 1), .ref (am 2), .ref (am 3), .ref (am 4), .ref (am 5), .ref (am 6), .ref (am 7), .ref (am 8), .int 0, .ref (am 9), .int 0, .ref (am 10), .int 0, .ref (am 11), .ref (am 12), .int 0, .int 0, .int 1, .null, .null, .int 0, .int 0, .int 0, .long 0, .int 0, .ref (am 13), .int 0, .int 0, .int 0, .ref (am 14), .ref (am 15), .ref (am 16), .ref (am 17), .int 0, .ref (am 18), .ref (am 19), .ref (am 20)])), ((am 9), .inl (k 0, 8, .inl (fun _ => 0))), ((am 1), .inl (k 0, 8, .inl (fun _ => 0)))] : va_W)) [0, 1, 2] (by decide) rfl).weaken (fun _ _ _ _ => trivial)) (m_noRow l D k hm am sv _) gV_RX7_99 (by decide +kernel) rfl rfl ⟨Nat.le_of_ble_eq_true rfl, Nat.le_of_ble_eq_true rfl⟩ rfl rfl rfl rfl (Nat.le_of_ble_eq_true rfl) dX7_set_2 ⟨Nat.le_of_ble_eq_true rfl, Nat.le_of_ble_eq_true rfl⟩) (fun r_3 u_1 H locs c_4 hP hD hS => ?_)
  have c_4 : r_3 = -4 ∧ gx_b sv 0 7 = true ∨ r_3 = -2 ∧ gx_b sv 0 7 = false := c_4
  have hP : va_P D gx_cl [] H := hP
  have hD : va_D A [] := hD
  rcases c_4 with ⟨rfl, c_6⟩ | ⟨rfl, c_6⟩
  · refine lv_istore (lv' := [(5, .int (-4)), (0, .ref hm), (1, .int sv), (2, .int iv), (3, .long lv)]) hx hb dX7_set_5 hl (by decide) rfl (fun ls hl => ?_)
    refine lv_iload hx hb dX7_set_7 (lv_at hl 0 rfl) ?_
    refine lv_if_eq (tgt := 15) hx hb dX7_set_9 (by decide) (fun c_7 => absurd c_7 (by decide)) (fun c_7 => ?_)
    refine lv_iload hx hb dX7_set_12 (lv_at hl 0 rfl) ?_
    exact gx_retI C (u := ()) gx_nil gx_noneD hS (by simp [gs_set, c_6]) dX7_set_14
  · refine lv_istore (lv' := [(5, .int (-2)), (0, .ref hm), (1, .int sv), (2, .int iv), (3, .long lv)]) hx hb dX7_set_5 hl (by decide) rfl (fun ls hl => ?_)
    refine lv_iload hx hb dX7_set_7 (lv_at hl 0 rfl) ?_
    refine lv_if_eq (tgt := 15) hx hb dX7_set_9 (by decide) (fun c_8 => absurd c_8 (by decide)) (fun c_8 => ?_)
    refine lv_iload hx hb dX7_set_12 (lv_at hl 0 rfl) ?_
    exact gx_retI C (u := ()) gx_nil gx_noneD hS (by simp [gs_set, c_6]) dX7_set_14
set_option maxHeartbeats 4000000 in
set_option maxRecDepth 100000 in
theorem m_copy_pub (l : Launch) (D : va_G) (k : Nat → ClassId) (hm : Nat) (am : Nat → Nat) (pv : Int32) (qv : Int32) (iv : Int32) (jv : Int32) (nv : Int32) (sz : Nat) : Met l yX7_copy (.code yX7_copy cX7_copy 7 (some .int) :: gx_T) ({ frames := 1, cells := 0, slots := 0, locals := 25 }) (gx_Pre D k [.ref hm, .int pv, .int qv, .int iv, .int jv, .int nv] ([(hm, .inr (5, [.ref (am 1), .ref (am 2), .ref (am 3), .ref (am 4), .ref (am 5), .ref (am 6), .ref (am 7), .ref (am 8), .int 0, .ref (am 9), .int 0, .ref (am 10), .int 0, .ref (am 11), .ref (am 12), .int 0, .int 0, .int 1, .null, .null, .int 0, .int 0, .int 0, .long 0, .int 0, .ref (am 13), .int 0, .int 0, .int 0, .ref (am 14), .ref (am 15), .ref (am 16), .ref (am 17), .int 0, .ref (am 18), .ref (am 19), .ref (am 20)])), ((am 9), .inl (k 0, 8, .inl (fun _ => 0))), ((am 1), .inl (k 0, 8, .inl (fun _ => 0)))]) sz) (gx_Qi D (fun (r : Int32) (u : Unit) => r = (gs_copy pv qv)) (fun (u : Unit) => ([] : va_W)) (va_A ([(hm, .inr (5, [.ref (am 1), .ref (am 2), .ref (am 3), .ref (am 4), .ref (am 5), .ref (am 6), .ref (am 7), .ref (am 8), .int 0, .ref (am 9), .int 0, .ref (am 10), .int 0, .ref (am 11), .ref (am 12), .int 0, .int 0, .int 1, .null, .null, .int 0, .int 0, .int 0, .long 0, .int 0, .ref (am 13), .int 0, .int 0, .int 0, .ref (am 14), .ref (am 15), .ref (am 16), .ref (am 17), .int 0, .ref (am 18), .ref (am 19), .ref (am 20)])), ((am 9), .inl (k 0, 8, .inl (fun _ => 0))), ((am 1), .inl (k 0, 8, .inl (fun _ => 0)))]) sz)) 0 0 (va_A ([(hm, .inr (5, [.ref (am 1), .ref (am 2), .ref (am 3), .ref (am 4), .ref (am 5), .ref (am 6), .ref (am 7), .ref (am 8), .int 0, .ref (am 9), .int 0, .ref (am 10), .int 0, .ref (am 11), .ref (am 12), .int 0, .int 0, .int 1, .null, .null, .int 0, .int 0, .int 0, .long 0, .int 0, .ref (am 13), .int 0, .int 0, .int 0, .ref (am 14), .ref (am 15), .ref (am 16), .ref (am 17), .int 0, .ref (am 18), .ref (am 19), .ref (am 20)])), ((am 9), .inl (k 0, 8, .inl (fun _ => 0))), ((am 1), .inl (k 0, 8, .inl (fun _ => 0)))]) sz) := by
  refine gx_metE (Qc := fun A => gx_Qi D (fun (r : Int32) (u : Unit) => r = (gs_copy pv qv)) (fun (u : Unit) => ([] : va_W)) A) (y := yX7_copy) (cc := cX7_copy) (n := 7) (ret := (some .int)) (av := [.ref hm, .int pv, .int qv, .int iv, .int jv, .int nv]) (by decide) (Nat.le_of_ble_eq_true rfl) ?_
  intro p e s m below meth c A ls C hA hP hD hK hS hl
  obtain ⟨hx, hb, hr, hml, hown, hT, hlk, hin⟩ := id C
  have hown : s.vm.findClass RX7 = some m.cls := hown
  have hl : lv_has ls 7 [(0, .ref hm), (1, .int pv), (2, .int qv), (3, .int iv), (4, .int jv), (5, .int nv)] := hl
  refine lv_iload_n hx hb dX7_copy_0 rfl (lv_at hl 1 rfl) ?_
  refine lv_i2l (v := (pv).toInt64) hx hb dX7_copy_1 (rfl) ?_
  refine lv_lconst (v := 0) hx hb dX7_copy_2 (by decide) ?_
  refine lv_ldc2 (v := 7) hx hb hown (hT _ wd_1046) dX7_copy_3 ?_
  refine gx_pi hP hS (gx_runS (na := 3) (As := [.long ((pv).toInt64), .long 0, .long 7]) (rest := []) C hl.1 hK (gx_subP (wc := ([] : va_W)) hP [] rfl) ((hD.sub (ws' := ([] : va_W)) [] (by decide) rfl).weaken (fun _ _ _ _ => trivial)) (m_in l D k pv 0 7 0 7 (by decide) (by decide) _) gS_RX7_82 (by decide +kernel) rfl rfl ⟨Nat.le_of_ble_eq_true rfl, Nat.le_of_ble_eq_true rfl⟩ rfl rfl (Nat.le_of_ble_eq_true rfl) dX7_copy_6 ⟨Nat.le_of_ble_eq_true rfl, Nat.le_of_ble_eq_true rfl⟩) (fun r_2 H locs pc_1 hP hS => ?_)
  have oc_1 : r_2 = 1 ∧ gx_b pv 0 7 = true ∨ r_2 = 0 ∧ gx_b pv 0 7 = false := pc_1
  clear pc_1
  rcases oc_1 with ⟨rfl, c_1⟩ | ⟨rfl, c_1⟩
  · refine lv_if_eq (tgt := 24) hx hb dX7_copy_9 (by decide) (fun c_3 => absurd c_3 (by decide)) (fun c_3 => ?_)
    refine lv_iload_n hx hb dX7_copy_12 rfl (lv_at hl 2 rfl) ?_
    refine lv_i2l (v := (qv).toInt64) hx hb dX7_copy_13 (rfl) ?_
    refine lv_lconst (v := 0) hx hb dX7_copy_14 (by decide) ?_
    refine lv_ldc2 (v := 7) hx hb hown (hT _ wd_1046) dX7_copy_15 ?_
    refine gx_pi hP hS (gx_runS (na := 3) (As := [.long ((qv).toInt64), .long 0, .long 7]) (rest := []) C hl.1 hK (gx_subP (wc := ([] : va_W)) hP [] rfl) ((hD.sub (ws' := ([] : va_W)) [] (by decide) rfl).weaken (fun _ _ _ _ => trivial)) (m_in l D k qv 0 7 0 7 (by decide) (by decide) _) gS_RX7_82 (by decide +kernel) rfl rfl ⟨Nat.le_of_ble_eq_true rfl, Nat.le_of_ble_eq_true rfl⟩ rfl rfl (Nat.le_of_ble_eq_true rfl) dX7_copy_18 ⟨Nat.le_of_ble_eq_true rfl, Nat.le_of_ble_eq_true rfl⟩) (fun r_5 H locs pc_4 hP hS => ?_)
    have oc_4 : r_5 = 1 ∧ gx_b qv 0 7 = true ∨ r_5 = 0 ∧ gx_b qv 0 7 = false := pc_4
    clear pc_4
    rcases oc_4 with ⟨rfl, c_4⟩ | ⟨rfl, c_4⟩
    · refine lv_if_ne (tgt := 31) hx hb dX7_copy_21 (by decide) (fun c_6 => ?_) (fun c_6 => absurd c_6 (by decide))
      refine lv_aload_n hx hb dX7_copy_31 rfl (lv_at hl 0 rfl) ?_
      refine va_get (D := D) (ci := 5) (v := .ref (am 1)) (C := RX7) (T := TX7) (N := 37) hx hb hT iw_TX7 hown hK.1 hP 0 rfl rfl 0 (by decide) (hT _ wd_930) (fun _ h9 => h9) rfl dX7_copy_32 ?_
      refine lv_iload_n hx hb dX7_copy_35 rfl (lv_at hl 1 rfl) ?_
      refine va_iald hx hb hK.1 hP 2 0 rfl rfl (gx_vb c_1 (by decide) (by decide)) dX7_copy_36 ?_
      refine gx_cst (v := 0) (rfl) ?_
      refine lv_iconst (v := 2) hx hb dX7_copy_37 (by decide) ?_
      refine lv_icmp_eq (tgt := 86) hx hb dX7_copy_38 (by decide) (fun c_7 => absurd c_7 (by decide)) (fun c_7 => ?_)
      refine lv_aload_n hx hb dX7_copy_41 rfl (lv_at hl 0 rfl) ?_
      refine va_get (D := D) (ci := 5) (v := .ref (am 1)) (C := RX7) (T := TX7) (N := 37) hx hb hT iw_TX7 hown hK.1 hP 0 rfl rfl 0 (by decide) (hT _ wd_930) (fun _ h9 => h9) rfl dX7_copy_42 ?_
      refine lv_iload_n hx hb dX7_copy_45 rfl (lv_at hl 2 rfl) ?_
      refine va_iald hx hb hK.1 hP 2 0 rfl rfl (gx_vb c_4 (by decide) (by decide)) dX7_copy_46 ?_
      refine gx_cst (v := 0) (rfl) ?_
      refine lv_iconst (v := 2) hx hb dX7_copy_47 (by decide) ?_
      refine lv_icmp_eq (tgt := 86) hx hb dX7_copy_48 (by decide) (fun c_8 => absurd c_8 (by decide)) (fun c_8 => ?_)
      refine lv_aload_n hx hb dX7_copy_51 rfl (lv_at hl 0 rfl) ?_
      refine va_get (D := D) (ci := 5) (v := .ref (am 1)) (C := RX7) (T := TX7) (N := 37) hx hb hT iw_TX7 hown hK.1 hP 0 rfl rfl 0 (by decide) (hT _ wd_930) (fun _ h9 => h9) rfl dX7_copy_52 ?_
      refine lv_iload_n hx hb dX7_copy_55 rfl (lv_at hl 1 rfl) ?_
      refine va_iald hx hb hK.1 hP 2 0 rfl rfl (gx_vb c_1 (by decide) (by decide)) dX7_copy_56 ?_
      refine gx_cst (v := 0) (rfl) ?_
      refine lv_iconst (v := 1) hx hb dX7_copy_57 (by decide) ?_
      refine lv_icmp_ne (tgt := 93) hx hb dX7_copy_58 (by decide) (fun c_9 => ?_) (fun c_9 => absurd c_9 (by decide))
      refine lv_aload_n hx hb dX7_copy_93 rfl (lv_at hl 0 rfl) ?_
      refine va_get (D := D) (ci := 5) (v := .ref (am 1)) (C := RX7) (T := TX7) (N := 37) hx hb hT iw_TX7 hown hK.1 hP 0 rfl rfl 0 (by decide) (hT _ wd_930) (fun _ h9 => h9) rfl dX7_copy_94 ?_
      refine lv_iload_n hx hb dX7_copy_97 rfl (lv_at hl 1 rfl) ?_
      refine va_iald hx hb hK.1 hP 2 0 rfl rfl (gx_vb c_1 (by decide) (by decide)) dX7_copy_98 ?_
      refine gx_cst (v := 0) (rfl) ?_
      refine lv_if_eq (tgt := 111) hx hb dX7_copy_99 (by decide) (fun c_10 => ?_) (fun c_10 => absurd (by decide) c_10)
      refine lv_aload_n hx hb dX7_copy_111 rfl (lv_at hl 0 rfl) ?_
      refine lv_bipush (v := (-4)) hx hb dX7_copy_112 (by decide) ?_
      refine gx_ei (wc := ([(hm, .inr (5, [.ref (am 1), .ref (am 2), .ref (am 3), .ref (am 4), .ref (am 5), .ref (am 6), .ref (am 7), .ref (am 8), .int 0, .ref (am 9), .int 0, .ref (am 10), .int 0, .ref (am 11), .ref (am 12), .int 0, .int 0, .int 1, .null, .null, .int 0, .int 0, .int 0, .long 0, .int 0, .ref (am 13), .int 0, .int 0, .int 0, .ref (am 14), .ref (am 15), .ref (am 16), .ref (am 17), .int 0, .ref (am 18), .ref (am 19), .ref (am 20)])), ((am 9), .inl (k 0, 8, .inl (fun _ => 0)))] : va_W)) (wr := [((am 1), .inl (k 0, 8, .inl (fun _ => 0)))]) (isC := [0, 1]) (isR := [2]) hP hD hS hA rfl rfl (by decide) (by decide) (gx_runV (na := 1) (As := [.int (-4)]) (rest := []) (ci := 5) C hl.1 hK (gx_subP (wc := ([(hm, .inr (5, [.ref (am 1), .ref (am 2), .ref (am 3), .ref (am 4), .ref (am 5), .ref (am 6), .ref (am 7), .ref (am 8), .int 0, .ref (am 9), .int 0, .ref (am 10), .int 0, .ref (am 11), .ref (am 12), .int 0, .int 0, .int 1, .null, .null, .int 0, .int 0, .int 0, .long 0, .int 0, .ref (am 13), .int 0, .int 0, .int 0, .ref (am 14), .ref (am 15), .ref (am 16), .ref (am 17), .int 0, .ref (am 18), .ref (am 19), .ref (am 20)])), ((am 9), .inl (k 0, 8, .inl (fun _ => 0)))] : va_W)) hP [0, 1] rfl) ((hD.sub (ws' := ([(hm, .inr (5, [.ref (am 1), .ref (am 2), .ref (am 3), .ref (am 4), .ref (am 5), .ref (am 6), .ref (am 7), .ref (am 8), .int 0, .ref (am 9), .int 0, .ref (am 10), .int 0, .ref (am 11), .ref (am 12), .int 0, .int 0, .int 1, .null, .null, .int 0, .int 0, .int 0, .long 0, .int 0, .ref (am 13), .int 0, .int 0, .int 0, .ref (am 14), .ref (am 15), .ref (am 16), .ref (am 17), .int 0, .ref (am 18), .ref (am 19), .ref (am 20)])), ((am 9), .inl (k 0, 8, .inl (fun _ => 0)))] : va_W)) [0, 1] (by decide) rfl).weaken (fun _ _ _ _ => trivial)) (m_refuse4 l D k hm am .null .null 0 _) gV_RX7_95 (by decide +kernel) rfl rfl ⟨Nat.le_of_ble_eq_true rfl, Nat.le_of_ble_eq_true rfl⟩ rfl rfl rfl rfl (Nat.le_of_ble_eq_true rfl) dX7_copy_114 ⟨Nat.le_of_ble_eq_true rfl, Nat.le_of_ble_eq_true rfl⟩) (fun r_13 u_11 H locs h_12 hP hD hS => ?_)
      have h_12 : r_13 = -4 := h_12
      have hP : va_P D gx_cl [((am 1), .inl (k 0, 8, .inl (fun _ => 0)))] H := hP
      have hD : va_D A [((am 1), .inl (k 0, 8, .inl (fun _ => 0)))] := hD
      have eh_12 := h_12
      subst eh_12
      exact gx_retI C (u := ()) gx_nil gx_noneD hS (by simp [gs_copy, c_1, c_4]) dX7_copy_117
    · refine lv_if_ne (tgt := 31) hx hb dX7_copy_21 (by decide) (fun c_15 => absurd (by decide) c_15) (fun c_15 => ?_)
      refine lv_aload_n hx hb dX7_copy_24 rfl (lv_at hl 0 rfl) ?_
      refine lv_bipush (v := (-2)) hx hb dX7_copy_25 (by decide) ?_
      refine gx_ei (wc := ([(hm, .inr (5, [.ref (am 1), .ref (am 2), .ref (am 3), .ref (am 4), .ref (am 5), .ref (am 6), .ref (am 7), .ref (am 8), .int 0, .ref (am 9), .int 0, .ref (am 10), .int 0, .ref (am 11), .ref (am 12), .int 0, .int 0, .int 1, .null, .null, .int 0, .int 0, .int 0, .long 0, .int 0, .ref (am 13), .int 0, .int 0, .int 0, .ref (am 14), .ref (am 15), .ref (am 16), .ref (am 17), .int 0, .ref (am 18), .ref (am 19), .ref (am 20)])), ((am 9), .inl (k 0, 8, .inl (fun _ => 0)))] : va_W)) (wr := [((am 1), .inl (k 0, 8, .inl (fun _ => 0)))]) (isC := [0, 1]) (isR := [2]) hP hD hS hA rfl rfl (by decide) (by decide) (gx_runV (na := 1) (As := [.int (-2)]) (rest := []) (ci := 5) C hl.1 hK (gx_subP (wc := ([(hm, .inr (5, [.ref (am 1), .ref (am 2), .ref (am 3), .ref (am 4), .ref (am 5), .ref (am 6), .ref (am 7), .ref (am 8), .int 0, .ref (am 9), .int 0, .ref (am 10), .int 0, .ref (am 11), .ref (am 12), .int 0, .int 0, .int 1, .null, .null, .int 0, .int 0, .int 0, .long 0, .int 0, .ref (am 13), .int 0, .int 0, .int 0, .ref (am 14), .ref (am 15), .ref (am 16), .ref (am 17), .int 0, .ref (am 18), .ref (am 19), .ref (am 20)])), ((am 9), .inl (k 0, 8, .inl (fun _ => 0)))] : va_W)) hP [0, 1] rfl) ((hD.sub (ws' := ([(hm, .inr (5, [.ref (am 1), .ref (am 2), .ref (am 3), .ref (am 4), .ref (am 5), .ref (am 6), .ref (am 7), .ref (am 8), .int 0, .ref (am 9), .int 0, .ref (am 10), .int 0, .ref (am 11), .ref (am 12), .int 0, .int 0, .int 1, .null, .null, .int 0, .int 0, .int 0, .long 0, .int 0, .ref (am 13), .int 0, .int 0, .int 0, .ref (am 14), .ref (am 15), .ref (am 16), .ref (am 17), .int 0, .ref (am 18), .ref (am 19), .ref (am 20)])), ((am 9), .inl (k 0, 8, .inl (fun _ => 0)))] : va_W)) [0, 1] (by decide) rfl).weaken (fun _ _ _ _ => trivial)) (m_refuse2 l D k hm am .null .null 0 _) gV_RX7_95 (by decide +kernel) rfl rfl ⟨Nat.le_of_ble_eq_true rfl, Nat.le_of_ble_eq_true rfl⟩ rfl rfl rfl rfl (Nat.le_of_ble_eq_true rfl) dX7_copy_27 ⟨Nat.le_of_ble_eq_true rfl, Nat.le_of_ble_eq_true rfl⟩) (fun r_18 u_16 H locs h_17 hP hD hS => ?_)
      have h_17 : r_18 = -2 := h_17
      have hP : va_P D gx_cl [((am 1), .inl (k 0, 8, .inl (fun _ => 0)))] H := hP
      have hD : va_D A [((am 1), .inl (k 0, 8, .inl (fun _ => 0)))] := hD
      have eh_17 := h_17
      subst eh_17
      exact gx_retI C (u := ()) gx_nil gx_noneD hS (by simp [gs_copy, c_1, c_4]) dX7_copy_30
  · refine lv_if_eq (tgt := 24) hx hb dX7_copy_9 (by decide) (fun c_20 => ?_) (fun c_20 => absurd (by decide) c_20)
    refine lv_aload_n hx hb dX7_copy_24 rfl (lv_at hl 0 rfl) ?_
    refine lv_bipush (v := (-2)) hx hb dX7_copy_25 (by decide) ?_
    refine gx_ei (wc := ([(hm, .inr (5, [.ref (am 1), .ref (am 2), .ref (am 3), .ref (am 4), .ref (am 5), .ref (am 6), .ref (am 7), .ref (am 8), .int 0, .ref (am 9), .int 0, .ref (am 10), .int 0, .ref (am 11), .ref (am 12), .int 0, .int 0, .int 1, .null, .null, .int 0, .int 0, .int 0, .long 0, .int 0, .ref (am 13), .int 0, .int 0, .int 0, .ref (am 14), .ref (am 15), .ref (am 16), .ref (am 17), .int 0, .ref (am 18), .ref (am 19), .ref (am 20)])), ((am 9), .inl (k 0, 8, .inl (fun _ => 0)))] : va_W)) (wr := [((am 1), .inl (k 0, 8, .inl (fun _ => 0)))]) (isC := [0, 1]) (isR := [2]) hP hD hS hA rfl rfl (by decide) (by decide) (gx_runV (na := 1) (As := [.int (-2)]) (rest := []) (ci := 5) C hl.1 hK (gx_subP (wc := ([(hm, .inr (5, [.ref (am 1), .ref (am 2), .ref (am 3), .ref (am 4), .ref (am 5), .ref (am 6), .ref (am 7), .ref (am 8), .int 0, .ref (am 9), .int 0, .ref (am 10), .int 0, .ref (am 11), .ref (am 12), .int 0, .int 0, .int 1, .null, .null, .int 0, .int 0, .int 0, .long 0, .int 0, .ref (am 13), .int 0, .int 0, .int 0, .ref (am 14), .ref (am 15), .ref (am 16), .ref (am 17), .int 0, .ref (am 18), .ref (am 19), .ref (am 20)])), ((am 9), .inl (k 0, 8, .inl (fun _ => 0)))] : va_W)) hP [0, 1] rfl) ((hD.sub (ws' := ([(hm, .inr (5, [.ref (am 1), .ref (am 2), .ref (am 3), .ref (am 4), .ref (am 5), .ref (am 6), .ref (am 7), .ref (am 8), .int 0, .ref (am 9), .int 0, .ref (am 10), .int 0, .ref (am 11), .ref (am 12), .int 0, .int 0, .int 1, .null, .null, .int 0, .int 0, .int 0, .long 0, .int 0, .ref (am 13), .int 0, .int 0, .int 0, .ref (am 14), .ref (am 15), .ref (am 16), .ref (am 17), .int 0, .ref (am 18), .ref (am 19), .ref (am 20)])), ((am 9), .inl (k 0, 8, .inl (fun _ => 0)))] : va_W)) [0, 1] (by decide) rfl).weaken (fun _ _ _ _ => trivial)) (m_refuse2 l D k hm am .null .null 0 _) gV_RX7_95 (by decide +kernel) rfl rfl ⟨Nat.le_of_ble_eq_true rfl, Nat.le_of_ble_eq_true rfl⟩ rfl rfl rfl rfl (Nat.le_of_ble_eq_true rfl) dX7_copy_27 ⟨Nat.le_of_ble_eq_true rfl, Nat.le_of_ble_eq_true rfl⟩) (fun r_23 u_21 H locs h_22 hP hD hS => ?_)
    have h_22 : r_23 = -2 := h_22
    have hP : va_P D gx_cl [((am 1), .inl (k 0, 8, .inl (fun _ => 0)))] H := hP
    have hD : va_D A [((am 1), .inl (k 0, 8, .inl (fun _ => 0)))] := hD
    have eh_22 := h_22
    subst eh_22
    exact gx_retI C (u := ()) gx_nil gx_noneD hS (by simp [gs_copy, c_1]) dX7_copy_30
set_option maxHeartbeats 4000000 in
set_option maxRecDepth 100000 in
theorem m_element_pub (l : Launch) (D : va_G) (k : Nat → ClassId) (hm : Nat) (am : Nat → Nat) (sv : Int32) (iv : Int32) (sz : Nat) : Met l yX7_element (.code yX7_element cX7_element 3 (some .long) :: gx_T) ({ frames := 1, cells := 0, slots := 0, locals := 25 }) (gx_Pre D k [.ref hm, .int sv, .int iv] ([(hm, .inr (5, [.ref (am 1), .ref (am 2), .ref (am 3), .ref (am 4), .ref (am 5), .ref (am 6), .ref (am 7), .ref (am 8), .int 0, .ref (am 9), .int 0, .ref (am 10), .int 0, .ref (am 11), .ref (am 12), .int 0, .int 0, .int 1, .null, .null, .int 0, .int 0, .int 0, .long 0, .int 0, .ref (am 13), .int 0, .int 0, .int 0, .ref (am 14), .ref (am 15), .ref (am 16), .ref (am 17), .int 0, .ref (am 18), .ref (am 19), .ref (am 20)])), ((am 1), .inl (k 0, 8, .inl (fun _ => 0)))]) sz) (gx_Pl (fun r => r = 0)) 0 0 gx_No := by
  refine gx_metP (y := yX7_element) (cc := cX7_element) (n := 3) (ret := (some .long)) (av := [.ref hm, .int sv, .int iv]) (by decide) (Nat.le_of_ble_eq_true rfl) ?_
  intro p e s m below meth c ls C hP hD hK hS hl
  obtain ⟨hx, hb, hr, hml, hown, hT, hlk, hin⟩ := id C
  have hown : s.vm.findClass RX7 = some m.cls := hown
  have hl : lv_has ls 3 [(0, .ref hm), (1, .int sv), (2, .int iv)] := hl
  refine lv_iload_n hx hb dX7_element_0 rfl (lv_at hl 1 rfl) ?_
  refine lv_i2l (v := (sv).toInt64) hx hb dX7_element_1 (rfl) ?_
  refine lv_lconst (v := 0) hx hb dX7_element_2 (by decide) ?_
  refine lv_ldc2 (v := 7) hx hb hown (hT _ wd_1046) dX7_element_3 ?_
  refine gx_pi hP hS (gx_runS (na := 3) (As := [.long ((sv).toInt64), .long 0, .long 7]) (rest := []) C hl.1 hK (gx_subP (wc := ([] : va_W)) hP [] rfl) ((hD.sub (ws' := ([] : va_W)) [] (by decide) rfl).weaken (fun _ _ _ _ => trivial)) (m_in l D k sv 0 7 0 7 (by decide) (by decide) _) gS_RX7_82 (by decide +kernel) rfl rfl ⟨Nat.le_of_ble_eq_true rfl, Nat.le_of_ble_eq_true rfl⟩ rfl rfl (Nat.le_of_ble_eq_true rfl) dX7_element_6 ⟨Nat.le_of_ble_eq_true rfl, Nat.le_of_ble_eq_true rfl⟩) (fun r_2 H locs pc_1 hP hS => ?_)
  have oc_1 : r_2 = 1 ∧ gx_b sv 0 7 = true ∨ r_2 = 0 ∧ gx_b sv 0 7 = false := pc_1
  clear pc_1
  rcases oc_1 with ⟨rfl, c_1⟩ | ⟨rfl, c_1⟩
  · refine lv_if_eq (tgt := 51) hx hb dX7_element_9 (by decide) (fun c_3 => absurd c_3 (by decide)) (fun c_3 => ?_)
    refine lv_aload_n hx hb dX7_element_12 rfl (lv_at hl 0 rfl) ?_
    refine va_get (D := D) (ci := 5) (v := .ref (am 1)) (C := RX7) (T := TX7) (N := 37) hx hb hT iw_TX7 hown hK.1 hP 0 rfl rfl 0 (by decide) (hT _ wd_930) (fun _ h9 => h9) rfl dX7_element_13 ?_
    refine lv_iload_n hx hb dX7_element_16 rfl (lv_at hl 1 rfl) ?_
    refine va_iald hx hb hK.1 hP 1 0 rfl rfl (gx_vb c_1 (by decide) (by decide)) dX7_element_17 ?_
    refine gx_cst (v := 0) (rfl) ?_
    refine lv_iconst (v := 1) hx hb dX7_element_18 (by decide) ?_
    refine lv_icmp_ne (tgt := 51) hx hb dX7_element_19 (by decide) (fun c_4 => ?_) (fun c_4 => absurd c_4 (by decide))
    refine lv_lconst (v := 0) hx hb dX7_element_51 (by decide) ?_
    exact gx_retPL C hS (rfl) dX7_element_52
  · refine lv_if_eq (tgt := 51) hx hb dX7_element_9 (by decide) (fun c_5 => ?_) (fun c_5 => absurd (by decide) c_5)
    refine lv_lconst (v := 0) hx hb dX7_element_51 (by decide) ?_
    exact gx_retPL C hS (rfl) dX7_element_52
set_option maxHeartbeats 4000000 in
set_option maxRecDepth 100000 in
theorem m_holds_pub (l : Launch) (D : va_G) (k : Nat → ClassId) (hm : Nat) (am : Nat → Nat) (sv : Int32) (sz : Nat) : Met l yX7_holds (.code yX7_holds cX7_holds 2 (some .int) :: gx_T) ({ frames := 1, cells := 0, slots := 0, locals := 25 }) (gx_Pre D k [.ref hm, .int sv] ([(hm, .inr (5, [.ref (am 1), .ref (am 2), .ref (am 3), .ref (am 4), .ref (am 5), .ref (am 6), .ref (am 7), .ref (am 8), .int 0, .ref (am 9), .int 0, .ref (am 10), .int 0, .ref (am 11), .ref (am 12), .int 0, .int 0, .int 1, .null, .null, .int 0, .int 0, .int 0, .long 0, .int 0, .ref (am 13), .int 0, .int 0, .int 0, .ref (am 14), .ref (am 15), .ref (am 16), .ref (am 17), .int 0, .ref (am 18), .ref (am 19), .ref (am 20)])), ((am 1), .inl (k 0, 8, .inl (fun _ => 0)))]) sz) (gx_Pi (fun r => r = -1)) 0 0 gx_No := by
  refine gx_metP (y := yX7_holds) (cc := cX7_holds) (n := 2) (ret := (some .int)) (av := [.ref hm, .int sv]) (by decide) (Nat.le_of_ble_eq_true rfl) ?_
  intro p e s m below meth c ls C hP hD hK hS hl
  obtain ⟨hx, hb, hr, hml, hown, hT, hlk, hin⟩ := id C
  have hown : s.vm.findClass RX7 = some m.cls := hown
  have hl : lv_has ls 2 [(0, .ref hm), (1, .int sv)] := hl
  refine lv_iload_n hx hb dX7_holds_0 rfl (lv_at hl 1 rfl) ?_
  refine lv_i2l (v := (sv).toInt64) hx hb dX7_holds_1 (rfl) ?_
  refine lv_lconst (v := 0) hx hb dX7_holds_2 (by decide) ?_
  refine lv_ldc2 (v := 7) hx hb hown (hT _ wd_1046) dX7_holds_3 ?_
  refine gx_pi hP hS (gx_runS (na := 3) (As := [.long ((sv).toInt64), .long 0, .long 7]) (rest := []) C hl.1 hK (gx_subP (wc := ([] : va_W)) hP [] rfl) ((hD.sub (ws' := ([] : va_W)) [] (by decide) rfl).weaken (fun _ _ _ _ => trivial)) (m_in l D k sv 0 7 0 7 (by decide) (by decide) _) gS_RX7_82 (by decide +kernel) rfl rfl ⟨Nat.le_of_ble_eq_true rfl, Nat.le_of_ble_eq_true rfl⟩ rfl rfl (Nat.le_of_ble_eq_true rfl) dX7_holds_6 ⟨Nat.le_of_ble_eq_true rfl, Nat.le_of_ble_eq_true rfl⟩) (fun r_2 H locs pc_1 hP hS => ?_)
  have oc_1 : r_2 = 1 ∧ gx_b sv 0 7 = true ∨ r_2 = 0 ∧ gx_b sv 0 7 = false := pc_1
  clear pc_1
  rcases oc_1 with ⟨rfl, c_1⟩ | ⟨rfl, c_1⟩
  · refine lv_if_eq (tgt := 21) hx hb dX7_holds_9 (by decide) (fun c_3 => absurd c_3 (by decide)) (fun c_3 => ?_)
    refine lv_aload_n hx hb dX7_holds_12 rfl (lv_at hl 0 rfl) ?_
    refine va_get (D := D) (ci := 5) (v := .ref (am 1)) (C := RX7) (T := TX7) (N := 37) hx hb hT iw_TX7 hown hK.1 hP 0 rfl rfl 0 (by decide) (hT _ wd_930) (fun _ h9 => h9) rfl dX7_holds_13 ?_
    refine lv_iload_n hx hb dX7_holds_16 rfl (lv_at hl 1 rfl) ?_
    refine va_iald hx hb hK.1 hP 1 0 rfl rfl (gx_vb c_1 (by decide) (by decide)) dX7_holds_17 ?_
    refine gx_cst (v := 0) (rfl) ?_
    refine lv_if_ne (tgt := 23) hx hb dX7_holds_18 (by decide) (fun c_4 => absurd (by decide) c_4) (fun c_4 => ?_)
    refine lv_iconst (v := (-1)) hx hb dX7_holds_21 (by decide) ?_
    exact gx_retP C hS (rfl) dX7_holds_22
  · refine lv_if_eq (tgt := 21) hx hb dX7_holds_9 (by decide) (fun c_5 => ?_) (fun c_5 => absurd (by decide) c_5)
    refine lv_iconst (v := (-1)) hx hb dX7_holds_21 (by decide) ?_
    exact gx_retP C hS (rfl) dX7_holds_22
set_option maxHeartbeats 4000000 in
set_option maxRecDepth 100000 in
theorem m_rule_pub (l : Launch) (D : va_G) (k : Nat → ClassId) (hm : Nat) (am : Nat → Nat) (sv : Int32) (kv : Int32) (av : Int32) (sz : Nat) : Met l yX7_rule (.code yX7_rule cX7_rule 4 (some .int) :: gx_T) ({ frames := 1, cells := 0, slots := 0, locals := 25 }) (gx_Pre D k [.ref hm, .int sv, .int kv, .int av] ([(hm, .inr (5, [.ref (am 1), .ref (am 2), .ref (am 3), .ref (am 4), .ref (am 5), .ref (am 6), .ref (am 7), .ref (am 8), .int 0, .ref (am 9), .int 0, .ref (am 10), .int 0, .ref (am 11), .ref (am 12), .int 0, .int 0, .int 1, .null, .null, .int 0, .int 0, .int 0, .long 0, .int 0, .ref (am 13), .int 0, .int 0, .int 0, .ref (am 14), .ref (am 15), .ref (am 16), .ref (am 17), .int 0, .ref (am 18), .ref (am 19), .ref (am 20)])), ((am 9), .inl (k 0, 8, .inl (fun _ => 0))), ((am 1), .inl (k 0, 8, .inl (fun _ => 0))), ((am 6), .inl (k 0, 8, .inl (fun _ => 0))), ((am 7), .inl (k 0, 8, .inl (fun _ => 0)))]) sz) (gx_Qi D (fun (r : Int32) (u : Unit) => r = (gs_rule sv kv av)) (fun (u : Unit) => ([] : va_W)) (va_A ([(hm, .inr (5, [.ref (am 1), .ref (am 2), .ref (am 3), .ref (am 4), .ref (am 5), .ref (am 6), .ref (am 7), .ref (am 8), .int 0, .ref (am 9), .int 0, .ref (am 10), .int 0, .ref (am 11), .ref (am 12), .int 0, .int 0, .int 1, .null, .null, .int 0, .int 0, .int 0, .long 0, .int 0, .ref (am 13), .int 0, .int 0, .int 0, .ref (am 14), .ref (am 15), .ref (am 16), .ref (am 17), .int 0, .ref (am 18), .ref (am 19), .ref (am 20)])), ((am 9), .inl (k 0, 8, .inl (fun _ => 0))), ((am 1), .inl (k 0, 8, .inl (fun _ => 0))), ((am 6), .inl (k 0, 8, .inl (fun _ => 0))), ((am 7), .inl (k 0, 8, .inl (fun _ => 0)))]) sz)) 0 0 (va_A ([(hm, .inr (5, [.ref (am 1), .ref (am 2), .ref (am 3), .ref (am 4), .ref (am 5), .ref (am 6), .ref (am 7), .ref (am 8), .int 0, .ref (am 9), .int 0, .ref (am 10), .int 0, .ref (am 11), .ref (am 12), .int 0, .int 0, .int 1, .null, .null, .int 0, .int 0, .int 0, .long 0, .int 0, .ref (am 13), .int 0, .int 0, .int 0, .ref (am 14), .ref (am 15), .ref (am 16), .ref (am 17), .int 0, .ref (am 18), .ref (am 19), .ref (am 20)])), ((am 9), .inl (k 0, 8, .inl (fun _ => 0))), ((am 1), .inl (k 0, 8, .inl (fun _ => 0))), ((am 6), .inl (k 0, 8, .inl (fun _ => 0))), ((am 7), .inl (k 0, 8, .inl (fun _ => 0)))]) sz) := by
  refine gx_metE (Qc := fun A => gx_Qi D (fun (r : Int32) (u : Unit) => r = (gs_rule sv kv av)) (fun (u : Unit) => ([] : va_W)) A) (y := yX7_rule) (cc := cX7_rule) (n := 4) (ret := (some .int)) (av := [.ref hm, .int sv, .int kv, .int av]) (by decide) (Nat.le_of_ble_eq_true rfl) ?_
  intro p e s m below meth c A ls C hA hP hD hK hS hl
  obtain ⟨hx, hb, hr, hml, hown, hT, hlk, hin⟩ := id C
  have hown : s.vm.findClass RX7 = some m.cls := hown
  have hl : lv_has ls 4 [(0, .ref hm), (1, .int sv), (2, .int kv), (3, .int av)] := hl
  refine lv_iload_n hx hb dX7_rule_0 rfl (lv_at hl 1 rfl) ?_
  refine lv_i2l (v := (sv).toInt64) hx hb dX7_rule_1 (rfl) ?_
  refine lv_lconst (v := 0) hx hb dX7_rule_2 (by decide) ?_
  refine lv_ldc2 (v := 7) hx hb hown (hT _ wd_1046) dX7_rule_3 ?_
  refine gx_pi hP hS (gx_runS (na := 3) (As := [.long ((sv).toInt64), .long 0, .long 7]) (rest := []) C hl.1 hK (gx_subP (wc := ([] : va_W)) hP [] rfl) ((hD.sub (ws' := ([] : va_W)) [] (by decide) rfl).weaken (fun _ _ _ _ => trivial)) (m_in l D k sv 0 7 0 7 (by decide) (by decide) _) gS_RX7_82 (by decide +kernel) rfl rfl ⟨Nat.le_of_ble_eq_true rfl, Nat.le_of_ble_eq_true rfl⟩ rfl rfl (Nat.le_of_ble_eq_true rfl) dX7_rule_6 ⟨Nat.le_of_ble_eq_true rfl, Nat.le_of_ble_eq_true rfl⟩) (fun r_2 H locs pc_1 hP hS => ?_)
  have oc_1 : r_2 = 1 ∧ gx_b sv 0 7 = true ∨ r_2 = 0 ∧ gx_b sv 0 7 = false := pc_1
  clear pc_1
  rcases oc_1 with ⟨rfl, c_1⟩ | ⟨rfl, c_1⟩
  · refine lv_if_eq (tgt := 36) hx hb dX7_rule_9 (by decide) (fun c_3 => absurd c_3 (by decide)) (fun c_3 => ?_)
    refine lv_iload_n hx hb dX7_rule_12 rfl (lv_at hl 2 rfl) ?_
    refine lv_i2l (v := (kv).toInt64) hx hb dX7_rule_13 (rfl) ?_
    refine lv_lconst (v := 1) hx hb dX7_rule_14 (by decide) ?_
    refine lv_ldc2 (v := 6) hx hb hown (hT _ wd_1083) dX7_rule_15 ?_
    refine gx_pi hP hS (gx_runS (na := 3) (As := [.long ((kv).toInt64), .long 1, .long 6]) (rest := []) C hl.1 hK (gx_subP (wc := ([] : va_W)) hP [] rfl) ((hD.sub (ws' := ([] : va_W)) [] (by decide) rfl).weaken (fun _ _ _ _ => trivial)) (m_in l D k kv 1 6 1 6 (by decide) (by decide) _) gS_RX7_82 (by decide +kernel) rfl rfl ⟨Nat.le_of_ble_eq_true rfl, Nat.le_of_ble_eq_true rfl⟩ rfl rfl (Nat.le_of_ble_eq_true rfl) dX7_rule_18 ⟨Nat.le_of_ble_eq_true rfl, Nat.le_of_ble_eq_true rfl⟩) (fun r_5 H locs pc_4 hP hS => ?_)
    have oc_4 : r_5 = 1 ∧ gx_b kv 1 6 = true ∨ r_5 = 0 ∧ gx_b kv 1 6 = false := pc_4
    clear pc_4
    rcases oc_4 with ⟨rfl, c_4⟩ | ⟨rfl, c_4⟩
    · refine lv_if_eq (tgt := 36) hx hb dX7_rule_21 (by decide) (fun c_6 => absurd c_6 (by decide)) (fun c_6 => ?_)
      refine lv_iload_n hx hb dX7_rule_24 rfl (lv_at hl 3 rfl) ?_
      refine lv_i2l (v := (av).toInt64) hx hb dX7_rule_25 (rfl) ?_
      refine lv_lconst (v := 0) hx hb dX7_rule_26 (by decide) ?_
      refine lv_ldc2 (v := 99) hx hb hown (hT _ wd_1084) dX7_rule_27 ?_
      refine gx_pi hP hS (gx_runS (na := 3) (As := [.long ((av).toInt64), .long 0, .long 99]) (rest := []) C hl.1 hK (gx_subP (wc := ([] : va_W)) hP [] rfl) ((hD.sub (ws' := ([] : va_W)) [] (by decide) rfl).weaken (fun _ _ _ _ => trivial)) (m_in l D k av 0 99 0 99 (by decide) (by decide) _) gS_RX7_82 (by decide +kernel) rfl rfl ⟨Nat.le_of_ble_eq_true rfl, Nat.le_of_ble_eq_true rfl⟩ rfl rfl (Nat.le_of_ble_eq_true rfl) dX7_rule_30 ⟨Nat.le_of_ble_eq_true rfl, Nat.le_of_ble_eq_true rfl⟩) (fun r_8 H locs pc_7 hP hS => ?_)
      have oc_7 : r_8 = 1 ∧ gx_b av 0 99 = true ∨ r_8 = 0 ∧ gx_b av 0 99 = false := pc_7
      clear pc_7
      rcases oc_7 with ⟨rfl, c_7⟩ | ⟨rfl, c_7⟩
      · refine lv_if_ne (tgt := 43) hx hb dX7_rule_33 (by decide) (fun c_9 => ?_) (fun c_9 => absurd c_9 (by decide))
        refine lv_aload_n hx hb dX7_rule_43 rfl (lv_at hl 0 rfl) ?_
        refine va_get (D := D) (ci := 5) (v := .ref (am 1)) (C := RX7) (T := TX7) (N := 37) hx hb hT iw_TX7 hown hK.1 hP 0 rfl rfl 0 (by decide) (hT _ wd_930) (fun _ h9 => h9) rfl dX7_rule_44 ?_
        refine lv_iload_n hx hb dX7_rule_47 rfl (lv_at hl 1 rfl) ?_
        refine lv_iconst (v := 2) hx hb dX7_rule_48 (by decide) ?_
        refine va_iast hx hb hK.1 hP hD hS 2 0 rfl rfl (gx_vb c_1 (by decide) (by decide)) dX7_rule_49 (fun H locs hP hD hS => ?_)
        obtain ⟨f_10, ef_10⟩ : ∃ f9, f9 = upd ((fun _ => 0) : Nat → Int32) (sv : Int32).toNatClampNeg (2 : Int32) := ⟨_, rfl⟩
        have hP : va_P D gx_cl [(hm, .inr (5, [.ref (am 1), .ref (am 2), .ref (am 3), .ref (am 4), .ref (am 5), .ref (am 6), .ref (am 7), .ref (am 8), .int 0, .ref (am 9), .int 0, .ref (am 10), .int 0, .ref (am 11), .ref (am 12), .int 0, .int 0, .int 1, .null, .null, .int 0, .int 0, .int 0, .long 0, .int 0, .ref (am 13), .int 0, .int 0, .int 0, .ref (am 14), .ref (am 15), .ref (am 16), .ref (am 17), .int 0, .ref (am 18), .ref (am 19), .ref (am 20)])), ((am 9), .inl (k 0, 8, .inl (fun _ => 0))), ((am 1), .inl (k 0, 8, .inl f_10)), ((am 6), .inl (k 0, 8, .inl (fun _ => 0))), ((am 7), .inl (k 0, 8, .inl (fun _ => 0)))] H := by subst ef_10; exact hP
        have hD : va_D A [(hm, .inr (5, [.ref (am 1), .ref (am 2), .ref (am 3), .ref (am 4), .ref (am 5), .ref (am 6), .ref (am 7), .ref (am 8), .int 0, .ref (am 9), .int 0, .ref (am 10), .int 0, .ref (am 11), .ref (am 12), .int 0, .int 0, .int 1, .null, .null, .int 0, .int 0, .int 0, .long 0, .int 0, .ref (am 13), .int 0, .int 0, .int 0, .ref (am 14), .ref (am 15), .ref (am 16), .ref (am 17), .int 0, .ref (am 18), .ref (am 19), .ref (am 20)])), ((am 9), .inl (k 0, 8, .inl (fun _ => 0))), ((am 1), .inl (k 0, 8, .inl f_10)), ((am 6), .inl (k 0, 8, .inl (fun _ => 0))), ((am 7), .inl (k 0, 8, .inl (fun _ => 0)))] := by subst ef_10; exact hD
        refine lv_aload_n hx hb dX7_rule_50 rfl (lv_at hl 0 rfl) ?_
        refine va_get (D := D) (ci := 5) (v := .ref (am 6)) (C := RX7) (T := TX7) (N := 37) hx hb hT iw_TX7 hown hK.1 hP 0 rfl rfl 5 (by decide) (hT _ wd_935) (fun _ h9 => h9) rfl dX7_rule_51 ?_
        refine lv_iload_n hx hb dX7_rule_54 rfl (lv_at hl 1 rfl) ?_
        refine lv_iload_n hx hb dX7_rule_55 rfl (lv_at hl 2 rfl) ?_
        refine va_iast hx hb hK.1 hP hD hS 3 0 rfl rfl (gx_vb c_1 (by decide) (by decide)) dX7_rule_56 (fun H locs hP hD hS => ?_)
        obtain ⟨f_11, ef_11⟩ : ∃ f9, f9 = upd ((fun _ => 0) : Nat → Int32) (sv : Int32).toNatClampNeg (kv : Int32) := ⟨_, rfl⟩
        have hP : va_P D gx_cl [(hm, .inr (5, [.ref (am 1), .ref (am 2), .ref (am 3), .ref (am 4), .ref (am 5), .ref (am 6), .ref (am 7), .ref (am 8), .int 0, .ref (am 9), .int 0, .ref (am 10), .int 0, .ref (am 11), .ref (am 12), .int 0, .int 0, .int 1, .null, .null, .int 0, .int 0, .int 0, .long 0, .int 0, .ref (am 13), .int 0, .int 0, .int 0, .ref (am 14), .ref (am 15), .ref (am 16), .ref (am 17), .int 0, .ref (am 18), .ref (am 19), .ref (am 20)])), ((am 9), .inl (k 0, 8, .inl (fun _ => 0))), ((am 1), .inl (k 0, 8, .inl f_10)), ((am 6), .inl (k 0, 8, .inl f_11)), ((am 7), .inl (k 0, 8, .inl (fun _ => 0)))] H := by subst ef_11; exact hP
        have hD : va_D A [(hm, .inr (5, [.ref (am 1), .ref (am 2), .ref (am 3), .ref (am 4), .ref (am 5), .ref (am 6), .ref (am 7), .ref (am 8), .int 0, .ref (am 9), .int 0, .ref (am 10), .int 0, .ref (am 11), .ref (am 12), .int 0, .int 0, .int 1, .null, .null, .int 0, .int 0, .int 0, .long 0, .int 0, .ref (am 13), .int 0, .int 0, .int 0, .ref (am 14), .ref (am 15), .ref (am 16), .ref (am 17), .int 0, .ref (am 18), .ref (am 19), .ref (am 20)])), ((am 9), .inl (k 0, 8, .inl (fun _ => 0))), ((am 1), .inl (k 0, 8, .inl f_10)), ((am 6), .inl (k 0, 8, .inl f_11)), ((am 7), .inl (k 0, 8, .inl (fun _ => 0)))] := by subst ef_11; exact hD
        refine lv_aload_n hx hb dX7_rule_57 rfl (lv_at hl 0 rfl) ?_
        refine va_get (D := D) (ci := 5) (v := .ref (am 7)) (C := RX7) (T := TX7) (N := 37) hx hb hT iw_TX7 hown hK.1 hP 0 rfl rfl 6 (by decide) (hT _ wd_936) (fun _ h9 => h9) rfl dX7_rule_58 ?_
        refine lv_iload_n hx hb dX7_rule_61 rfl (lv_at hl 1 rfl) ?_
        refine lv_iload_n hx hb dX7_rule_62 rfl (lv_at hl 3 rfl) ?_
        refine va_iast hx hb hK.1 hP hD hS 4 0 rfl rfl (gx_vb c_1 (by decide) (by decide)) dX7_rule_63 (fun H locs hP hD hS => ?_)
        obtain ⟨f_12, ef_12⟩ : ∃ f9, f9 = upd ((fun _ => 0) : Nat → Int32) (sv : Int32).toNatClampNeg (av : Int32) := ⟨_, rfl⟩
        have hP : va_P D gx_cl [(hm, .inr (5, [.ref (am 1), .ref (am 2), .ref (am 3), .ref (am 4), .ref (am 5), .ref (am 6), .ref (am 7), .ref (am 8), .int 0, .ref (am 9), .int 0, .ref (am 10), .int 0, .ref (am 11), .ref (am 12), .int 0, .int 0, .int 1, .null, .null, .int 0, .int 0, .int 0, .long 0, .int 0, .ref (am 13), .int 0, .int 0, .int 0, .ref (am 14), .ref (am 15), .ref (am 16), .ref (am 17), .int 0, .ref (am 18), .ref (am 19), .ref (am 20)])), ((am 9), .inl (k 0, 8, .inl (fun _ => 0))), ((am 1), .inl (k 0, 8, .inl f_10)), ((am 6), .inl (k 0, 8, .inl f_11)), ((am 7), .inl (k 0, 8, .inl f_12))] H := by subst ef_12; exact hP
        have hD : va_D A [(hm, .inr (5, [.ref (am 1), .ref (am 2), .ref (am 3), .ref (am 4), .ref (am 5), .ref (am 6), .ref (am 7), .ref (am 8), .int 0, .ref (am 9), .int 0, .ref (am 10), .int 0, .ref (am 11), .ref (am 12), .int 0, .int 0, .int 1, .null, .null, .int 0, .int 0, .int 0, .long 0, .int 0, .ref (am 13), .int 0, .int 0, .int 0, .ref (am 14), .ref (am 15), .ref (am 16), .ref (am 17), .int 0, .ref (am 18), .ref (am 19), .ref (am 20)])), ((am 9), .inl (k 0, 8, .inl (fun _ => 0))), ((am 1), .inl (k 0, 8, .inl f_10)), ((am 6), .inl (k 0, 8, .inl f_11)), ((am 7), .inl (k 0, 8, .inl f_12))] := by subst ef_12; exact hD
        refine lv_iconst (v := 1) hx hb dX7_rule_64 (by decide) ?_
        exact gx_retI C (u := ()) gx_nil gx_noneD hS (by simp [gs_rule, c_1, c_4, c_7]) dX7_rule_65
      · refine lv_if_ne (tgt := 43) hx hb dX7_rule_33 (by decide) (fun c_13 => absurd (by decide) c_13) (fun c_13 => ?_)
        refine lv_aload_n hx hb dX7_rule_36 rfl (lv_at hl 0 rfl) ?_
        refine lv_bipush (v := (-2)) hx hb dX7_rule_37 (by decide) ?_
        refine gx_ei (wc := ([(hm, .inr (5, [.ref (am 1), .ref (am 2), .ref (am 3), .ref (am 4), .ref (am 5), .ref (am 6), .ref (am 7), .ref (am 8), .int 0, .ref (am 9), .int 0, .ref (am 10), .int 0, .ref (am 11), .ref (am 12), .int 0, .int 0, .int 1, .null, .null, .int 0, .int 0, .int 0, .long 0, .int 0, .ref (am 13), .int 0, .int 0, .int 0, .ref (am 14), .ref (am 15), .ref (am 16), .ref (am 17), .int 0, .ref (am 18), .ref (am 19), .ref (am 20)])), ((am 9), .inl (k 0, 8, .inl (fun _ => 0)))] : va_W)) (wr := [((am 1), .inl (k 0, 8, .inl (fun _ => 0))), ((am 6), .inl (k 0, 8, .inl (fun _ => 0))), ((am 7), .inl (k 0, 8, .inl (fun _ => 0)))]) (isC := [0, 1]) (isR := [2, 3, 4]) hP hD hS hA rfl rfl (by decide) (by decide) (gx_runV (na := 1) (As := [.int (-2)]) (rest := []) (ci := 5) C hl.1 hK (gx_subP (wc := ([(hm, .inr (5, [.ref (am 1), .ref (am 2), .ref (am 3), .ref (am 4), .ref (am 5), .ref (am 6), .ref (am 7), .ref (am 8), .int 0, .ref (am 9), .int 0, .ref (am 10), .int 0, .ref (am 11), .ref (am 12), .int 0, .int 0, .int 1, .null, .null, .int 0, .int 0, .int 0, .long 0, .int 0, .ref (am 13), .int 0, .int 0, .int 0, .ref (am 14), .ref (am 15), .ref (am 16), .ref (am 17), .int 0, .ref (am 18), .ref (am 19), .ref (am 20)])), ((am 9), .inl (k 0, 8, .inl (fun _ => 0)))] : va_W)) hP [0, 1] rfl) ((hD.sub (ws' := ([(hm, .inr (5, [.ref (am 1), .ref (am 2), .ref (am 3), .ref (am 4), .ref (am 5), .ref (am 6), .ref (am 7), .ref (am 8), .int 0, .ref (am 9), .int 0, .ref (am 10), .int 0, .ref (am 11), .ref (am 12), .int 0, .int 0, .int 1, .null, .null, .int 0, .int 0, .int 0, .long 0, .int 0, .ref (am 13), .int 0, .int 0, .int 0, .ref (am 14), .ref (am 15), .ref (am 16), .ref (am 17), .int 0, .ref (am 18), .ref (am 19), .ref (am 20)])), ((am 9), .inl (k 0, 8, .inl (fun _ => 0)))] : va_W)) [0, 1] (by decide) rfl).weaken (fun _ _ _ _ => trivial)) (m_refuse2 l D k hm am .null .null 0 _) gV_RX7_95 (by decide +kernel) rfl rfl ⟨Nat.le_of_ble_eq_true rfl, Nat.le_of_ble_eq_true rfl⟩ rfl rfl rfl rfl (Nat.le_of_ble_eq_true rfl) dX7_rule_39 ⟨Nat.le_of_ble_eq_true rfl, Nat.le_of_ble_eq_true rfl⟩) (fun r_16 u_14 H locs h_15 hP hD hS => ?_)
        have h_15 : r_16 = -2 := h_15
        have hP : va_P D gx_cl [((am 1), .inl (k 0, 8, .inl (fun _ => 0))), ((am 6), .inl (k 0, 8, .inl (fun _ => 0))), ((am 7), .inl (k 0, 8, .inl (fun _ => 0)))] H := hP
        have hD : va_D A [((am 1), .inl (k 0, 8, .inl (fun _ => 0))), ((am 6), .inl (k 0, 8, .inl (fun _ => 0))), ((am 7), .inl (k 0, 8, .inl (fun _ => 0)))] := hD
        have eh_15 := h_15
        subst eh_15
        exact gx_retI C (u := ()) gx_nil gx_noneD hS (by simp [gs_rule, c_1, c_4, c_7]) dX7_rule_42
    · refine lv_if_eq (tgt := 36) hx hb dX7_rule_21 (by decide) (fun c_18 => ?_) (fun c_18 => absurd (by decide) c_18)
      refine lv_aload_n hx hb dX7_rule_36 rfl (lv_at hl 0 rfl) ?_
      refine lv_bipush (v := (-2)) hx hb dX7_rule_37 (by decide) ?_
      refine gx_ei (wc := ([(hm, .inr (5, [.ref (am 1), .ref (am 2), .ref (am 3), .ref (am 4), .ref (am 5), .ref (am 6), .ref (am 7), .ref (am 8), .int 0, .ref (am 9), .int 0, .ref (am 10), .int 0, .ref (am 11), .ref (am 12), .int 0, .int 0, .int 1, .null, .null, .int 0, .int 0, .int 0, .long 0, .int 0, .ref (am 13), .int 0, .int 0, .int 0, .ref (am 14), .ref (am 15), .ref (am 16), .ref (am 17), .int 0, .ref (am 18), .ref (am 19), .ref (am 20)])), ((am 9), .inl (k 0, 8, .inl (fun _ => 0)))] : va_W)) (wr := [((am 1), .inl (k 0, 8, .inl (fun _ => 0))), ((am 6), .inl (k 0, 8, .inl (fun _ => 0))), ((am 7), .inl (k 0, 8, .inl (fun _ => 0)))]) (isC := [0, 1]) (isR := [2, 3, 4]) hP hD hS hA rfl rfl (by decide) (by decide) (gx_runV (na := 1) (As := [.int (-2)]) (rest := []) (ci := 5) C hl.1 hK (gx_subP (wc := ([(hm, .inr (5, [.ref (am 1), .ref (am 2), .ref (am 3), .ref (am 4), .ref (am 5), .ref (am 6), .ref (am 7), .ref (am 8), .int 0, .ref (am 9), .int 0, .ref (am 10), .int 0, .ref (am 11), .ref (am 12), .int 0, .int 0, .int 1, .null, .null, .int 0, .int 0, .int 0, .long 0, .int 0, .ref (am 13), .int 0, .int 0, .int 0, .ref (am 14), .ref (am 15), .ref (am 16), .ref (am 17), .int 0, .ref (am 18), .ref (am 19), .ref (am 20)])), ((am 9), .inl (k 0, 8, .inl (fun _ => 0)))] : va_W)) hP [0, 1] rfl) ((hD.sub (ws' := ([(hm, .inr (5, [.ref (am 1), .ref (am 2), .ref (am 3), .ref (am 4), .ref (am 5), .ref (am 6), .ref (am 7), .ref (am 8), .int 0, .ref (am 9), .int 0, .ref (am 10), .int 0, .ref (am 11), .ref (am 12), .int 0, .int 0, .int 1, .null, .null, .int 0, .int 0, .int 0, .long 0, .int 0, .ref (am 13), .int 0, .int 0, .int 0, .ref (am 14), .ref (am 15), .ref (am 16), .ref (am 17), .int 0, .ref (am 18), .ref (am 19), .ref (am 20)])), ((am 9), .inl (k 0, 8, .inl (fun _ => 0)))] : va_W)) [0, 1] (by decide) rfl).weaken (fun _ _ _ _ => trivial)) (m_refuse2 l D k hm am .null .null 0 _) gV_RX7_95 (by decide +kernel) rfl rfl ⟨Nat.le_of_ble_eq_true rfl, Nat.le_of_ble_eq_true rfl⟩ rfl rfl rfl rfl (Nat.le_of_ble_eq_true rfl) dX7_rule_39 ⟨Nat.le_of_ble_eq_true rfl, Nat.le_of_ble_eq_true rfl⟩) (fun r_21 u_19 H locs h_20 hP hD hS => ?_)
      have h_20 : r_21 = -2 := h_20
      have hP : va_P D gx_cl [((am 1), .inl (k 0, 8, .inl (fun _ => 0))), ((am 6), .inl (k 0, 8, .inl (fun _ => 0))), ((am 7), .inl (k 0, 8, .inl (fun _ => 0)))] H := hP
      have hD : va_D A [((am 1), .inl (k 0, 8, .inl (fun _ => 0))), ((am 6), .inl (k 0, 8, .inl (fun _ => 0))), ((am 7), .inl (k 0, 8, .inl (fun _ => 0)))] := hD
      have eh_20 := h_20
      subst eh_20
      exact gx_retI C (u := ()) gx_nil gx_noneD hS (by simp [gs_rule, c_1, c_4]) dX7_rule_42
  · refine lv_if_eq (tgt := 36) hx hb dX7_rule_9 (by decide) (fun c_23 => ?_) (fun c_23 => absurd (by decide) c_23)
    refine lv_aload_n hx hb dX7_rule_36 rfl (lv_at hl 0 rfl) ?_
    refine lv_bipush (v := (-2)) hx hb dX7_rule_37 (by decide) ?_
    refine gx_ei (wc := ([(hm, .inr (5, [.ref (am 1), .ref (am 2), .ref (am 3), .ref (am 4), .ref (am 5), .ref (am 6), .ref (am 7), .ref (am 8), .int 0, .ref (am 9), .int 0, .ref (am 10), .int 0, .ref (am 11), .ref (am 12), .int 0, .int 0, .int 1, .null, .null, .int 0, .int 0, .int 0, .long 0, .int 0, .ref (am 13), .int 0, .int 0, .int 0, .ref (am 14), .ref (am 15), .ref (am 16), .ref (am 17), .int 0, .ref (am 18), .ref (am 19), .ref (am 20)])), ((am 9), .inl (k 0, 8, .inl (fun _ => 0)))] : va_W)) (wr := [((am 1), .inl (k 0, 8, .inl (fun _ => 0))), ((am 6), .inl (k 0, 8, .inl (fun _ => 0))), ((am 7), .inl (k 0, 8, .inl (fun _ => 0)))]) (isC := [0, 1]) (isR := [2, 3, 4]) hP hD hS hA rfl rfl (by decide) (by decide) (gx_runV (na := 1) (As := [.int (-2)]) (rest := []) (ci := 5) C hl.1 hK (gx_subP (wc := ([(hm, .inr (5, [.ref (am 1), .ref (am 2), .ref (am 3), .ref (am 4), .ref (am 5), .ref (am 6), .ref (am 7), .ref (am 8), .int 0, .ref (am 9), .int 0, .ref (am 10), .int 0, .ref (am 11), .ref (am 12), .int 0, .int 0, .int 1, .null, .null, .int 0, .int 0, .int 0, .long 0, .int 0, .ref (am 13), .int 0, .int 0, .int 0, .ref (am 14), .ref (am 15), .ref (am 16), .ref (am 17), .int 0, .ref (am 18), .ref (am 19), .ref (am 20)])), ((am 9), .inl (k 0, 8, .inl (fun _ => 0)))] : va_W)) hP [0, 1] rfl) ((hD.sub (ws' := ([(hm, .inr (5, [.ref (am 1), .ref (am 2), .ref (am 3), .ref (am 4), .ref (am 5), .ref (am 6), .ref (am 7), .ref (am 8), .int 0, .ref (am 9), .int 0, .ref (am 10), .int 0, .ref (am 11), .ref (am 12), .int 0, .int 0, .int 1, .null, .null, .int 0, .int 0, .int 0, .long 0, .int 0, .ref (am 13), .int 0, .int 0, .int 0, .ref (am 14), .ref (am 15), .ref (am 16), .ref (am 17), .int 0, .ref (am 18), .ref (am 19), .ref (am 20)])), ((am 9), .inl (k 0, 8, .inl (fun _ => 0)))] : va_W)) [0, 1] (by decide) rfl).weaken (fun _ _ _ _ => trivial)) (m_refuse2 l D k hm am .null .null 0 _) gV_RX7_95 (by decide +kernel) rfl rfl ⟨Nat.le_of_ble_eq_true rfl, Nat.le_of_ble_eq_true rfl⟩ rfl rfl rfl rfl (Nat.le_of_ble_eq_true rfl) dX7_rule_39 ⟨Nat.le_of_ble_eq_true rfl, Nat.le_of_ble_eq_true rfl⟩) (fun r_26 u_24 H locs h_25 hP hD hS => ?_)
    have h_25 : r_26 = -2 := h_25
    have hP : va_P D gx_cl [((am 1), .inl (k 0, 8, .inl (fun _ => 0))), ((am 6), .inl (k 0, 8, .inl (fun _ => 0))), ((am 7), .inl (k 0, 8, .inl (fun _ => 0)))] H := hP
    have hD : va_D A [((am 1), .inl (k 0, 8, .inl (fun _ => 0))), ((am 6), .inl (k 0, 8, .inl (fun _ => 0))), ((am 7), .inl (k 0, 8, .inl (fun _ => 0)))] := hD
    have eh_25 := h_25
    subst eh_25
    exact gx_retI C (u := ()) gx_nil gx_noneD hS (by simp [gs_rule, c_1]) dX7_rule_42
set_option maxHeartbeats 4000000 in
set_option maxRecDepth 100000 in
theorem m_says_pub (l : Launch) (D : va_G) (k : Nat → ClassId) (hm : Nat) (am : Nat → Nat) (sv : Int32) (kv : Int32) (sz : Nat) : Met l yX7_says (.code yX7_says cX7_says 3 (some .int) :: gx_T) ({ frames := 1, cells := 0, slots := 0, locals := 25 }) (gx_Pre D k [.ref hm, .int sv, .int kv] ([(hm, .inr (5, [.ref (am 1), .ref (am 2), .ref (am 3), .ref (am 4), .ref (am 5), .ref (am 6), .ref (am 7), .ref (am 8), .int 0, .ref (am 9), .int 0, .ref (am 10), .int 0, .ref (am 11), .ref (am 12), .int 0, .int 0, .int 1, .null, .null, .int 0, .int 0, .int 0, .long 0, .int 0, .ref (am 13), .int 0, .int 0, .int 0, .ref (am 14), .ref (am 15), .ref (am 16), .ref (am 17), .int 0, .ref (am 18), .ref (am 19), .ref (am 20)])), ((am 9), .inl (k 0, 8, .inl (fun _ => 0))), ((am 1), .inl (k 0, 8, .inl (fun _ => 0)))]) sz) (gx_Qi D (fun (r : Int32) (u : Unit) => r = (gs_says sv kv)) (fun (u : Unit) => ([] : va_W)) (va_A ([(hm, .inr (5, [.ref (am 1), .ref (am 2), .ref (am 3), .ref (am 4), .ref (am 5), .ref (am 6), .ref (am 7), .ref (am 8), .int 0, .ref (am 9), .int 0, .ref (am 10), .int 0, .ref (am 11), .ref (am 12), .int 0, .int 0, .int 1, .null, .null, .int 0, .int 0, .int 0, .long 0, .int 0, .ref (am 13), .int 0, .int 0, .int 0, .ref (am 14), .ref (am 15), .ref (am 16), .ref (am 17), .int 0, .ref (am 18), .ref (am 19), .ref (am 20)])), ((am 9), .inl (k 0, 8, .inl (fun _ => 0))), ((am 1), .inl (k 0, 8, .inl (fun _ => 0)))]) sz)) 0 0 (va_A ([(hm, .inr (5, [.ref (am 1), .ref (am 2), .ref (am 3), .ref (am 4), .ref (am 5), .ref (am 6), .ref (am 7), .ref (am 8), .int 0, .ref (am 9), .int 0, .ref (am 10), .int 0, .ref (am 11), .ref (am 12), .int 0, .int 0, .int 1, .null, .null, .int 0, .int 0, .int 0, .long 0, .int 0, .ref (am 13), .int 0, .int 0, .int 0, .ref (am 14), .ref (am 15), .ref (am 16), .ref (am 17), .int 0, .ref (am 18), .ref (am 19), .ref (am 20)])), ((am 9), .inl (k 0, 8, .inl (fun _ => 0))), ((am 1), .inl (k 0, 8, .inl (fun _ => 0)))]) sz) := by
  refine gx_metE (Qc := fun A => gx_Qi D (fun (r : Int32) (u : Unit) => r = (gs_says sv kv)) (fun (u : Unit) => ([] : va_W)) A) (y := yX7_says) (cc := cX7_says) (n := 3) (ret := (some .int)) (av := [.ref hm, .int sv, .int kv]) (by decide) (Nat.le_of_ble_eq_true rfl) ?_
  intro p e s m below meth c A ls C hA hP hD hK hS hl
  obtain ⟨hx, hb, hr, hml, hown, hT, hlk, hin⟩ := id C
  have hown : s.vm.findClass RX7 = some m.cls := hown
  have hl : lv_has ls 3 [(0, .ref hm), (1, .int sv), (2, .int kv)] := hl
  refine lv_iload_n hx hb dX7_says_0 rfl (lv_at hl 1 rfl) ?_
  refine lv_i2l (v := (sv).toInt64) hx hb dX7_says_1 (rfl) ?_
  refine lv_lconst (v := 0) hx hb dX7_says_2 (by decide) ?_
  refine lv_ldc2 (v := 7) hx hb hown (hT _ wd_1046) dX7_says_3 ?_
  refine gx_pi hP hS (gx_runS (na := 3) (As := [.long ((sv).toInt64), .long 0, .long 7]) (rest := []) C hl.1 hK (gx_subP (wc := ([] : va_W)) hP [] rfl) ((hD.sub (ws' := ([] : va_W)) [] (by decide) rfl).weaken (fun _ _ _ _ => trivial)) (m_in l D k sv 0 7 0 7 (by decide) (by decide) _) gS_RX7_82 (by decide +kernel) rfl rfl ⟨Nat.le_of_ble_eq_true rfl, Nat.le_of_ble_eq_true rfl⟩ rfl rfl (Nat.le_of_ble_eq_true rfl) dX7_says_6 ⟨Nat.le_of_ble_eq_true rfl, Nat.le_of_ble_eq_true rfl⟩) (fun r_2 H locs pc_1 hP hS => ?_)
  have oc_1 : r_2 = 1 ∧ gx_b sv 0 7 = true ∨ r_2 = 0 ∧ gx_b sv 0 7 = false := pc_1
  clear pc_1
  rcases oc_1 with ⟨rfl, c_1⟩ | ⟨rfl, c_1⟩
  · refine lv_if_eq (tgt := 24) hx hb dX7_says_9 (by decide) (fun c_3 => absurd c_3 (by decide)) (fun c_3 => ?_)
    refine lv_iload_n hx hb dX7_says_12 rfl (lv_at hl 2 rfl) ?_
    refine lv_i2l (v := (kv).toInt64) hx hb dX7_says_13 (rfl) ?_
    refine lv_lconst (v := 0) hx hb dX7_says_14 (by decide) ?_
    refine lv_ldc2 (v := 6) hx hb hown (hT _ wd_1083) dX7_says_15 ?_
    refine gx_pi hP hS (gx_runS (na := 3) (As := [.long ((kv).toInt64), .long 0, .long 6]) (rest := []) C hl.1 hK (gx_subP (wc := ([] : va_W)) hP [] rfl) ((hD.sub (ws' := ([] : va_W)) [] (by decide) rfl).weaken (fun _ _ _ _ => trivial)) (m_in l D k kv 0 6 0 6 (by decide) (by decide) _) gS_RX7_82 (by decide +kernel) rfl rfl ⟨Nat.le_of_ble_eq_true rfl, Nat.le_of_ble_eq_true rfl⟩ rfl rfl (Nat.le_of_ble_eq_true rfl) dX7_says_18 ⟨Nat.le_of_ble_eq_true rfl, Nat.le_of_ble_eq_true rfl⟩) (fun r_5 H locs pc_4 hP hS => ?_)
    have oc_4 : r_5 = 1 ∧ gx_b kv 0 6 = true ∨ r_5 = 0 ∧ gx_b kv 0 6 = false := pc_4
    clear pc_4
    rcases oc_4 with ⟨rfl, c_4⟩ | ⟨rfl, c_4⟩
    · refine lv_if_ne (tgt := 31) hx hb dX7_says_21 (by decide) (fun c_6 => ?_) (fun c_6 => absurd c_6 (by decide))
      refine lv_aload_n hx hb dX7_says_31 rfl (lv_at hl 0 rfl) ?_
      refine va_get (D := D) (ci := 5) (v := .ref (am 1)) (C := RX7) (T := TX7) (N := 37) hx hb hT iw_TX7 hown hK.1 hP 0 rfl rfl 0 (by decide) (hT _ wd_930) (fun _ h9 => h9) rfl dX7_says_32 ?_
      refine lv_iload_n hx hb dX7_says_35 rfl (lv_at hl 1 rfl) ?_
      refine va_iald hx hb hK.1 hP 2 0 rfl rfl (gx_vb c_1 (by decide) (by decide)) dX7_says_36 ?_
      refine gx_cst (v := 0) (rfl) ?_
      refine lv_iconst (v := 1) hx hb dX7_says_37 (by decide) ?_
      refine lv_icmp_eq (tgt := 64) hx hb dX7_says_38 (by decide) (fun c_7 => absurd c_7 (by decide)) (fun c_7 => ?_)
      refine lv_aload_n hx hb dX7_says_41 rfl (lv_at hl 0 rfl) ?_
      refine va_get (D := D) (ci := 5) (v := .ref (am 1)) (C := RX7) (T := TX7) (N := 37) hx hb hT iw_TX7 hown hK.1 hP 0 rfl rfl 0 (by decide) (hT _ wd_930) (fun _ h9 => h9) rfl dX7_says_42 ?_
      refine lv_iload_n hx hb dX7_says_45 rfl (lv_at hl 1 rfl) ?_
      refine va_iald hx hb hK.1 hP 2 0 rfl rfl (gx_vb c_1 (by decide) (by decide)) dX7_says_46 ?_
      refine gx_cst (v := 0) (rfl) ?_
      refine lv_iconst (v := 2) hx hb dX7_says_47 (by decide) ?_
      refine lv_icmp_ne (tgt := 71) hx hb dX7_says_48 (by decide) (fun c_8 => ?_) (fun c_8 => absurd c_8 (by decide))
      refine lv_aload_n hx hb dX7_says_71 rfl (lv_at hl 0 rfl) ?_
      refine va_get (D := D) (ci := 5) (v := .ref (am 1)) (C := RX7) (T := TX7) (N := 37) hx hb hT iw_TX7 hown hK.1 hP 0 rfl rfl 0 (by decide) (hT _ wd_930) (fun _ h9 => h9) rfl dX7_says_72 ?_
      refine lv_iload_n hx hb dX7_says_75 rfl (lv_at hl 1 rfl) ?_
      refine va_iald hx hb hK.1 hP 2 0 rfl rfl (gx_vb c_1 (by decide) (by decide)) dX7_says_76 ?_
      refine gx_cst (v := 0) (rfl) ?_
      refine lv_if_ne (tgt := 87) hx hb dX7_says_77 (by decide) (fun c_9 => absurd (by decide) c_9) (fun c_9 => ?_)
      refine lv_aload_n hx hb dX7_says_80 rfl (lv_at hl 0 rfl) ?_
      refine lv_bipush (v := (-4)) hx hb dX7_says_81 (by decide) ?_
      refine gx_ei (wc := ([(hm, .inr (5, [.ref (am 1), .ref (am 2), .ref (am 3), .ref (am 4), .ref (am 5), .ref (am 6), .ref (am 7), .ref (am 8), .int 0, .ref (am 9), .int 0, .ref (am 10), .int 0, .ref (am 11), .ref (am 12), .int 0, .int 0, .int 1, .null, .null, .int 0, .int 0, .int 0, .long 0, .int 0, .ref (am 13), .int 0, .int 0, .int 0, .ref (am 14), .ref (am 15), .ref (am 16), .ref (am 17), .int 0, .ref (am 18), .ref (am 19), .ref (am 20)])), ((am 9), .inl (k 0, 8, .inl (fun _ => 0)))] : va_W)) (wr := [((am 1), .inl (k 0, 8, .inl (fun _ => 0)))]) (isC := [0, 1]) (isR := [2]) hP hD hS hA rfl rfl (by decide) (by decide) (gx_runV (na := 1) (As := [.int (-4)]) (rest := []) (ci := 5) C hl.1 hK (gx_subP (wc := ([(hm, .inr (5, [.ref (am 1), .ref (am 2), .ref (am 3), .ref (am 4), .ref (am 5), .ref (am 6), .ref (am 7), .ref (am 8), .int 0, .ref (am 9), .int 0, .ref (am 10), .int 0, .ref (am 11), .ref (am 12), .int 0, .int 0, .int 1, .null, .null, .int 0, .int 0, .int 0, .long 0, .int 0, .ref (am 13), .int 0, .int 0, .int 0, .ref (am 14), .ref (am 15), .ref (am 16), .ref (am 17), .int 0, .ref (am 18), .ref (am 19), .ref (am 20)])), ((am 9), .inl (k 0, 8, .inl (fun _ => 0)))] : va_W)) hP [0, 1] rfl) ((hD.sub (ws' := ([(hm, .inr (5, [.ref (am 1), .ref (am 2), .ref (am 3), .ref (am 4), .ref (am 5), .ref (am 6), .ref (am 7), .ref (am 8), .int 0, .ref (am 9), .int 0, .ref (am 10), .int 0, .ref (am 11), .ref (am 12), .int 0, .int 0, .int 1, .null, .null, .int 0, .int 0, .int 0, .long 0, .int 0, .ref (am 13), .int 0, .int 0, .int 0, .ref (am 14), .ref (am 15), .ref (am 16), .ref (am 17), .int 0, .ref (am 18), .ref (am 19), .ref (am 20)])), ((am 9), .inl (k 0, 8, .inl (fun _ => 0)))] : va_W)) [0, 1] (by decide) rfl).weaken (fun _ _ _ _ => trivial)) (m_refuse4 l D k hm am .null .null 0 _) gV_RX7_95 (by decide +kernel) rfl rfl ⟨Nat.le_of_ble_eq_true rfl, Nat.le_of_ble_eq_true rfl⟩ rfl rfl rfl rfl (Nat.le_of_ble_eq_true rfl) dX7_says_83 ⟨Nat.le_of_ble_eq_true rfl, Nat.le_of_ble_eq_true rfl⟩) (fun r_12 u_10 H locs h_11 hP hD hS => ?_)
      have h_11 : r_12 = -4 := h_11
      have hP : va_P D gx_cl [((am 1), .inl (k 0, 8, .inl (fun _ => 0)))] H := hP
      have hD : va_D A [((am 1), .inl (k 0, 8, .inl (fun _ => 0)))] := hD
      have eh_11 := h_11
      subst eh_11
      exact gx_retI C (u := ()) gx_nil gx_noneD hS (by simp [gs_says, c_1, c_4]) dX7_says_86
    · refine lv_if_ne (tgt := 31) hx hb dX7_says_21 (by decide) (fun c_14 => absurd (by decide) c_14) (fun c_14 => ?_)
      refine lv_aload_n hx hb dX7_says_24 rfl (lv_at hl 0 rfl) ?_
      refine lv_bipush (v := (-2)) hx hb dX7_says_25 (by decide) ?_
      refine gx_ei (wc := ([(hm, .inr (5, [.ref (am 1), .ref (am 2), .ref (am 3), .ref (am 4), .ref (am 5), .ref (am 6), .ref (am 7), .ref (am 8), .int 0, .ref (am 9), .int 0, .ref (am 10), .int 0, .ref (am 11), .ref (am 12), .int 0, .int 0, .int 1, .null, .null, .int 0, .int 0, .int 0, .long 0, .int 0, .ref (am 13), .int 0, .int 0, .int 0, .ref (am 14), .ref (am 15), .ref (am 16), .ref (am 17), .int 0, .ref (am 18), .ref (am 19), .ref (am 20)])), ((am 9), .inl (k 0, 8, .inl (fun _ => 0)))] : va_W)) (wr := [((am 1), .inl (k 0, 8, .inl (fun _ => 0)))]) (isC := [0, 1]) (isR := [2]) hP hD hS hA rfl rfl (by decide) (by decide) (gx_runV (na := 1) (As := [.int (-2)]) (rest := []) (ci := 5) C hl.1 hK (gx_subP (wc := ([(hm, .inr (5, [.ref (am 1), .ref (am 2), .ref (am 3), .ref (am 4), .ref (am 5), .ref (am 6), .ref (am 7), .ref (am 8), .int 0, .ref (am 9), .int 0, .ref (am 10), .int 0, .ref (am 11), .ref (am 12), .int 0, .int 0, .int 1, .null, .null, .int 0, .int 0, .int 0, .long 0, .int 0, .ref (am 13), .int 0, .int 0, .int 0, .ref (am 14), .ref (am 15), .ref (am 16), .ref (am 17), .int 0, .ref (am 18), .ref (am 19), .ref (am 20)])), ((am 9), .inl (k 0, 8, .inl (fun _ => 0)))] : va_W)) hP [0, 1] rfl) ((hD.sub (ws' := ([(hm, .inr (5, [.ref (am 1), .ref (am 2), .ref (am 3), .ref (am 4), .ref (am 5), .ref (am 6), .ref (am 7), .ref (am 8), .int 0, .ref (am 9), .int 0, .ref (am 10), .int 0, .ref (am 11), .ref (am 12), .int 0, .int 0, .int 1, .null, .null, .int 0, .int 0, .int 0, .long 0, .int 0, .ref (am 13), .int 0, .int 0, .int 0, .ref (am 14), .ref (am 15), .ref (am 16), .ref (am 17), .int 0, .ref (am 18), .ref (am 19), .ref (am 20)])), ((am 9), .inl (k 0, 8, .inl (fun _ => 0)))] : va_W)) [0, 1] (by decide) rfl).weaken (fun _ _ _ _ => trivial)) (m_refuse2 l D k hm am .null .null 0 _) gV_RX7_95 (by decide +kernel) rfl rfl ⟨Nat.le_of_ble_eq_true rfl, Nat.le_of_ble_eq_true rfl⟩ rfl rfl rfl rfl (Nat.le_of_ble_eq_true rfl) dX7_says_27 ⟨Nat.le_of_ble_eq_true rfl, Nat.le_of_ble_eq_true rfl⟩) (fun r_17 u_15 H locs h_16 hP hD hS => ?_)
      have h_16 : r_17 = -2 := h_16
      have hP : va_P D gx_cl [((am 1), .inl (k 0, 8, .inl (fun _ => 0)))] H := hP
      have hD : va_D A [((am 1), .inl (k 0, 8, .inl (fun _ => 0)))] := hD
      have eh_16 := h_16
      subst eh_16
      exact gx_retI C (u := ()) gx_nil gx_noneD hS (by simp [gs_says, c_1, c_4]) dX7_says_30
  · refine lv_if_eq (tgt := 24) hx hb dX7_says_9 (by decide) (fun c_19 => ?_) (fun c_19 => absurd (by decide) c_19)
    refine lv_aload_n hx hb dX7_says_24 rfl (lv_at hl 0 rfl) ?_
    refine lv_bipush (v := (-2)) hx hb dX7_says_25 (by decide) ?_
    refine gx_ei (wc := ([(hm, .inr (5, [.ref (am 1), .ref (am 2), .ref (am 3), .ref (am 4), .ref (am 5), .ref (am 6), .ref (am 7), .ref (am 8), .int 0, .ref (am 9), .int 0, .ref (am 10), .int 0, .ref (am 11), .ref (am 12), .int 0, .int 0, .int 1, .null, .null, .int 0, .int 0, .int 0, .long 0, .int 0, .ref (am 13), .int 0, .int 0, .int 0, .ref (am 14), .ref (am 15), .ref (am 16), .ref (am 17), .int 0, .ref (am 18), .ref (am 19), .ref (am 20)])), ((am 9), .inl (k 0, 8, .inl (fun _ => 0)))] : va_W)) (wr := [((am 1), .inl (k 0, 8, .inl (fun _ => 0)))]) (isC := [0, 1]) (isR := [2]) hP hD hS hA rfl rfl (by decide) (by decide) (gx_runV (na := 1) (As := [.int (-2)]) (rest := []) (ci := 5) C hl.1 hK (gx_subP (wc := ([(hm, .inr (5, [.ref (am 1), .ref (am 2), .ref (am 3), .ref (am 4), .ref (am 5), .ref (am 6), .ref (am 7), .ref (am 8), .int 0, .ref (am 9), .int 0, .ref (am 10), .int 0, .ref (am 11), .ref (am 12), .int 0, .int 0, .int 1, .null, .null, .int 0, .int 0, .int 0, .long 0, .int 0, .ref (am 13), .int 0, .int 0, .int 0, .ref (am 14), .ref (am 15), .ref (am 16), .ref (am 17), .int 0, .ref (am 18), .ref (am 19), .ref (am 20)])), ((am 9), .inl (k 0, 8, .inl (fun _ => 0)))] : va_W)) hP [0, 1] rfl) ((hD.sub (ws' := ([(hm, .inr (5, [.ref (am 1), .ref (am 2), .ref (am 3), .ref (am 4), .ref (am 5), .ref (am 6), .ref (am 7), .ref (am 8), .int 0, .ref (am 9), .int 0, .ref (am 10), .int 0, .ref (am 11), .ref (am 12), .int 0, .int 0, .int 1, .null, .null, .int 0, .int 0, .int 0, .long 0, .int 0, .ref (am 13), .int 0, .int 0, .int 0, .ref (am 14), .ref (am 15), .ref (am 16), .ref (am 17), .int 0, .ref (am 18), .ref (am 19), .ref (am 20)])), ((am 9), .inl (k 0, 8, .inl (fun _ => 0)))] : va_W)) [0, 1] (by decide) rfl).weaken (fun _ _ _ _ => trivial)) (m_refuse2 l D k hm am .null .null 0 _) gV_RX7_95 (by decide +kernel) rfl rfl ⟨Nat.le_of_ble_eq_true rfl, Nat.le_of_ble_eq_true rfl⟩ rfl rfl rfl rfl (Nat.le_of_ble_eq_true rfl) dX7_says_27 ⟨Nat.le_of_ble_eq_true rfl, Nat.le_of_ble_eq_true rfl⟩) (fun r_22 u_20 H locs h_21 hP hD hS => ?_)
    have h_21 : r_22 = -2 := h_21
    have hP : va_P D gx_cl [((am 1), .inl (k 0, 8, .inl (fun _ => 0)))] H := hP
    have hD : va_D A [((am 1), .inl (k 0, 8, .inl (fun _ => 0)))] := hD
    have eh_21 := h_21
    subst eh_21
    exact gx_retI C (u := ()) gx_nil gx_noneD hS (by simp [gs_says, c_1]) dX7_says_30
set_option maxHeartbeats 4000000 in
set_option maxRecDepth 100000 in
theorem m_newRoad (l : Launch) (D : va_G) (k : Nat → ClassId) (hm : Nat) (am : Nat → Nat) (gd : Nat → Option Nat) (gl : Nat → Option Nat) (hgd : ∀ i, i < 16 → gd i = some (am (40 + i))) (hgl : ∀ i, i < 6 → gl i = some (am (70 + i))) (sz : Nat) : Met l yX7_newRoad (.code yX7_newRoad cX7_newRoad 2 none :: gx_T) ({ frames := 0, cells := 0, slots := 0, locals := 0 }) (gx_Pre D k [.ref hm] ([(hm, .inr (5, [.ref (am 1), .ref (am 2), .ref (am 3), .ref (am 4), .ref (am 5), .ref (am 6), .ref (am 7), .ref (am 8), .int 0, .ref (am 9), .int 0, .ref (am 10), .int 0, .ref (am 11), .ref (am 12), .int 0, .int 0, .int 1, .null, .null, .int 0, .int 0, .int 0, .long 0, .int 0, .ref (am 13), .int 0, .int 0, .int 0, .ref (am 14), .ref (am 15), .ref (am 16), .ref (am 17), .int 0, .ref (am 18), .ref (am 19), .ref (am 20)])), ((am 10), .inl (k 3, 16, .inr (.inr (.inr (.inr gd))))), ((am 40), .inl (k 0, 5, .inl (gx_zz 0))), ((am 12), .inl (k 3, 6, .inr (.inr (.inr (.inr gl))))), ((am 70), .inl (k 0, 16, .inl (gx_zz 0))), ((am 71), .inl (k 0, 16, .inl (gx_zz 1))), ((am 72), .inl (k 0, 16, .inl (gx_zz 2))), ((am 73), .inl (k 0, 16, .inl (gx_zz 3))), ((am 74), .inl (k 0, 16, .inl (gx_zz 4))), ((am 75), .inl (k 0, 16, .inl (gx_zz 5)))]) sz) (gx_Qv D (fun (u : (Nat → Int32)) => True) (fun (u : (Nat → Int32)) => ([(hm, .inr (5, [.ref (am 1), .ref (am 2), .ref (am 3), .ref (am 4), .ref (am 5), .ref (am 6), .ref (am 7), .ref (am 8), .int 0, .ref (am 9), .int 0, .ref (am 10), .int 0, .ref (am 11), .ref (am 12), .int 0, .int 0, .int 1, .null, .null, .int 0, .int 0, .int 0, .long 0, .int 0, .ref (am 13), .int 0, .int 0, .int 0, .ref (am 14), .ref (am 15), .ref (am 16), .ref (am 17), .int 0, .ref (am 18), .ref (am 19), .ref (am 20)])), ((am 10), .inl (k 3, 16, .inr (.inr (.inr (.inr gd))))), ((am 40), .inl (k 0, 5, .inl u))] : va_W)) (va_A ([(hm, .inr (5, [.ref (am 1), .ref (am 2), .ref (am 3), .ref (am 4), .ref (am 5), .ref (am 6), .ref (am 7), .ref (am 8), .int 0, .ref (am 9), .int 0, .ref (am 10), .int 0, .ref (am 11), .ref (am 12), .int 0, .int 0, .int 1, .null, .null, .int 0, .int 0, .int 0, .long 0, .int 0, .ref (am 13), .int 0, .int 0, .int 0, .ref (am 14), .ref (am 15), .ref (am 16), .ref (am 17), .int 0, .ref (am 18), .ref (am 19), .ref (am 20)])), ((am 10), .inl (k 3, 16, .inr (.inr (.inr (.inr gd))))), ((am 40), .inl (k 0, 5, .inl (gx_zz 0))), ((am 12), .inl (k 3, 6, .inr (.inr (.inr (.inr gl))))), ((am 70), .inl (k 0, 16, .inl (gx_zz 0))), ((am 71), .inl (k 0, 16, .inl (gx_zz 1))), ((am 72), .inl (k 0, 16, .inl (gx_zz 2))), ((am 73), .inl (k 0, 16, .inl (gx_zz 3))), ((am 74), .inl (k 0, 16, .inl (gx_zz 4))), ((am 75), .inl (k 0, 16, .inl (gx_zz 5)))]) sz)) 0 0 (va_A ([(hm, .inr (5, [.ref (am 1), .ref (am 2), .ref (am 3), .ref (am 4), .ref (am 5), .ref (am 6), .ref (am 7), .ref (am 8), .int 0, .ref (am 9), .int 0, .ref (am 10), .int 0, .ref (am 11), .ref (am 12), .int 0, .int 0, .int 1, .null, .null, .int 0, .int 0, .int 0, .long 0, .int 0, .ref (am 13), .int 0, .int 0, .int 0, .ref (am 14), .ref (am 15), .ref (am 16), .ref (am 17), .int 0, .ref (am 18), .ref (am 19), .ref (am 20)])), ((am 10), .inl (k 3, 16, .inr (.inr (.inr (.inr gd))))), ((am 40), .inl (k 0, 5, .inl (gx_zz 0))), ((am 12), .inl (k 3, 6, .inr (.inr (.inr (.inr gl))))), ((am 70), .inl (k 0, 16, .inl (gx_zz 0))), ((am 71), .inl (k 0, 16, .inl (gx_zz 1))), ((am 72), .inl (k 0, 16, .inl (gx_zz 2))), ((am 73), .inl (k 0, 16, .inl (gx_zz 3))), ((am 74), .inl (k 0, 16, .inl (gx_zz 4))), ((am 75), .inl (k 0, 16, .inl (gx_zz 5)))]) sz) := by
  refine gx_metE (Qc := fun A => gx_Qv D (fun (u : (Nat → Int32)) => True) (fun (u : (Nat → Int32)) => ([(hm, .inr (5, [.ref (am 1), .ref (am 2), .ref (am 3), .ref (am 4), .ref (am 5), .ref (am 6), .ref (am 7), .ref (am 8), .int 0, .ref (am 9), .int 0, .ref (am 10), .int 0, .ref (am 11), .ref (am 12), .int 0, .int 0, .int 1, .null, .null, .int 0, .int 0, .int 0, .long 0, .int 0, .ref (am 13), .int 0, .int 0, .int 0, .ref (am 14), .ref (am 15), .ref (am 16), .ref (am 17), .int 0, .ref (am 18), .ref (am 19), .ref (am 20)])), ((am 10), .inl (k 3, 16, .inr (.inr (.inr (.inr gd))))), ((am 40), .inl (k 0, 5, .inl u))] : va_W)) A) (y := yX7_newRoad) (cc := cX7_newRoad) (n := 2) (ret := none) (av := [.ref hm]) (by decide) (Nat.le_of_ble_eq_true rfl) ?_
  intro p e s m below meth c A ls C hA hP hD hK hS hl
  obtain ⟨hx, hb, hr, hml, hown, hT, hlk, hin⟩ := id C
  have hown : s.vm.findClass RX7 = some m.cls := hown
  have hl : lv_has ls 2 [(0, .ref hm)] := hl
  refine lv_aload_n hx hb dX7_newRoad_0 rfl (lv_at hl 0 rfl) ?_
  refine va_get (D := D) (ci := 5) (v := .ref (am 10)) (C := RX7) (T := TX7) (N := 37) hx hb hT iw_TX7 hown hK.1 hP 0 rfl rfl 11 (by decide) (hT _ wd_941) (fun _ h9 => h9) rfl dX7_newRoad_1 ?_
  refine lv_aload_n hx hb dX7_newRoad_4 rfl (lv_at hl 0 rfl) ?_
  refine va_get (D := D) (ci := 5) (v := .int 0) (C := RX7) (T := TX7) (N := 37) hx hb hT iw_TX7 hown hK.1 hP 0 rfl rfl 10 (by decide) (hT _ wd_940) (fun _ h9 => h9) rfl dX7_newRoad_5 ?_
  refine gx_aldA hx hb hK.1 hP 1 3 rfl rfl (gx_vin rfl) dX7_newRoad_8 ?_
  refine gx_csr (v := .ref (am 40)) (congrArg va_rf (hgd 0 (by decide))) ?_
  refine lv_iconst (v := 3) hx hb dX7_newRoad_9 (by decide) ?_
  refine lv_iconst (v := 0) hx hb dX7_newRoad_10 (by decide) ?_
  refine va_iast hx hb hK.1 hP hD hS 2 0 rfl rfl (gx_vin rfl) dX7_newRoad_11 (fun H locs hP hD hS => ?_)
  obtain ⟨f_1, ef_1⟩ : ∃ f9, f9 = upd (gx_zz 0) (3 : Int32).toNatClampNeg (0 : Int32) := ⟨_, rfl⟩
  have hP : va_P D gx_cl [(hm, .inr (5, [.ref (am 1), .ref (am 2), .ref (am 3), .ref (am 4), .ref (am 5), .ref (am 6), .ref (am 7), .ref (am 8), .int 0, .ref (am 9), .int 0, .ref (am 10), .int 0, .ref (am 11), .ref (am 12), .int 0, .int 0, .int 1, .null, .null, .int 0, .int 0, .int 0, .long 0, .int 0, .ref (am 13), .int 0, .int 0, .int 0, .ref (am 14), .ref (am 15), .ref (am 16), .ref (am 17), .int 0, .ref (am 18), .ref (am 19), .ref (am 20)])), ((am 10), .inl (k 3, 16, .inr (.inr (.inr (.inr gd))))), ((am 40), .inl (k 0, 5, .inl f_1)), ((am 12), .inl (k 3, 6, .inr (.inr (.inr (.inr gl))))), ((am 70), .inl (k 0, 16, .inl (gx_zz 0))), ((am 71), .inl (k 0, 16, .inl (gx_zz 1))), ((am 72), .inl (k 0, 16, .inl (gx_zz 2))), ((am 73), .inl (k 0, 16, .inl (gx_zz 3))), ((am 74), .inl (k 0, 16, .inl (gx_zz 4))), ((am 75), .inl (k 0, 16, .inl (gx_zz 5)))] H := by subst ef_1; exact hP
  have hD : va_D A [(hm, .inr (5, [.ref (am 1), .ref (am 2), .ref (am 3), .ref (am 4), .ref (am 5), .ref (am 6), .ref (am 7), .ref (am 8), .int 0, .ref (am 9), .int 0, .ref (am 10), .int 0, .ref (am 11), .ref (am 12), .int 0, .int 0, .int 1, .null, .null, .int 0, .int 0, .int 0, .long 0, .int 0, .ref (am 13), .int 0, .int 0, .int 0, .ref (am 14), .ref (am 15), .ref (am 16), .ref (am 17), .int 0, .ref (am 18), .ref (am 19), .ref (am 20)])), ((am 10), .inl (k 3, 16, .inr (.inr (.inr (.inr gd))))), ((am 40), .inl (k 0, 5, .inl f_1)), ((am 12), .inl (k 3, 6, .inr (.inr (.inr (.inr gl))))), ((am 70), .inl (k 0, 16, .inl (gx_zz 0))), ((am 71), .inl (k 0, 16, .inl (gx_zz 1))), ((am 72), .inl (k 0, 16, .inl (gx_zz 2))), ((am 73), .inl (k 0, 16, .inl (gx_zz 3))), ((am 74), .inl (k 0, 16, .inl (gx_zz 4))), ((am 75), .inl (k 0, 16, .inl (gx_zz 5)))] := by subst ef_1; exact hD
  refine lv_aload_n hx hb dX7_newRoad_12 rfl (lv_at hl 0 rfl) ?_
  refine va_get (D := D) (ci := 5) (v := .ref (am 10)) (C := RX7) (T := TX7) (N := 37) hx hb hT iw_TX7 hown hK.1 hP 0 rfl rfl 11 (by decide) (hT _ wd_941) (fun _ h9 => h9) rfl dX7_newRoad_13 ?_
  refine lv_aload_n hx hb dX7_newRoad_16 rfl (lv_at hl 0 rfl) ?_
  refine va_get (D := D) (ci := 5) (v := .int 0) (C := RX7) (T := TX7) (N := 37) hx hb hT iw_TX7 hown hK.1 hP 0 rfl rfl 10 (by decide) (hT _ wd_940) (fun _ h9 => h9) rfl dX7_newRoad_17 ?_
  refine gx_aldA hx hb hK.1 hP 1 3 rfl rfl (gx_vin rfl) dX7_newRoad_20 ?_
  refine gx_csr (v := .ref (am 40)) (congrArg va_rf (hgd 0 (by decide))) ?_
  refine lv_iconst (v := 4) hx hb dX7_newRoad_21 (by decide) ?_
  refine lv_iconst (v := 0) hx hb dX7_newRoad_22 (by decide) ?_
  refine va_iast hx hb hK.1 hP hD hS 2 0 rfl rfl (gx_vin rfl) dX7_newRoad_23 (fun H locs hP hD hS => ?_)
  obtain ⟨f_2, ef_2⟩ : ∃ f9, f9 = upd f_1 (4 : Int32).toNatClampNeg (0 : Int32) := ⟨_, rfl⟩
  have hP : va_P D gx_cl [(hm, .inr (5, [.ref (am 1), .ref (am 2), .ref (am 3), .ref (am 4), .ref (am 5), .ref (am 6), .ref (am 7), .ref (am 8), .int 0, .ref (am 9), .int 0, .ref (am 10), .int 0, .ref (am 11), .ref (am 12), .int 0, .int 0, .int 1, .null, .null, .int 0, .int 0, .int 0, .long 0, .int 0, .ref (am 13), .int 0, .int 0, .int 0, .ref (am 14), .ref (am 15), .ref (am 16), .ref (am 17), .int 0, .ref (am 18), .ref (am 19), .ref (am 20)])), ((am 10), .inl (k 3, 16, .inr (.inr (.inr (.inr gd))))), ((am 40), .inl (k 0, 5, .inl f_2)), ((am 12), .inl (k 3, 6, .inr (.inr (.inr (.inr gl))))), ((am 70), .inl (k 0, 16, .inl (gx_zz 0))), ((am 71), .inl (k 0, 16, .inl (gx_zz 1))), ((am 72), .inl (k 0, 16, .inl (gx_zz 2))), ((am 73), .inl (k 0, 16, .inl (gx_zz 3))), ((am 74), .inl (k 0, 16, .inl (gx_zz 4))), ((am 75), .inl (k 0, 16, .inl (gx_zz 5)))] H := by subst ef_2; exact hP
  have hD : va_D A [(hm, .inr (5, [.ref (am 1), .ref (am 2), .ref (am 3), .ref (am 4), .ref (am 5), .ref (am 6), .ref (am 7), .ref (am 8), .int 0, .ref (am 9), .int 0, .ref (am 10), .int 0, .ref (am 11), .ref (am 12), .int 0, .int 0, .int 1, .null, .null, .int 0, .int 0, .int 0, .long 0, .int 0, .ref (am 13), .int 0, .int 0, .int 0, .ref (am 14), .ref (am 15), .ref (am 16), .ref (am 17), .int 0, .ref (am 18), .ref (am 19), .ref (am 20)])), ((am 10), .inl (k 3, 16, .inr (.inr (.inr (.inr gd))))), ((am 40), .inl (k 0, 5, .inl f_2)), ((am 12), .inl (k 3, 6, .inr (.inr (.inr (.inr gl))))), ((am 70), .inl (k 0, 16, .inl (gx_zz 0))), ((am 71), .inl (k 0, 16, .inl (gx_zz 1))), ((am 72), .inl (k 0, 16, .inl (gx_zz 2))), ((am 73), .inl (k 0, 16, .inl (gx_zz 3))), ((am 74), .inl (k 0, 16, .inl (gx_zz 4))), ((am 75), .inl (k 0, 16, .inl (gx_zz 5)))] := by subst ef_2; exact hD
  refine lv_iconst (v := 0) hx hb dX7_newRoad_24 (by decide) ?_
  refine lv_istore_n (lv' := [(1, .int 0), (0, .ref hm)]) hx hb dX7_newRoad_25 rfl hl (by decide) rfl (fun ls hl => ?_)
  refine lv_iload_n hx hb dX7_newRoad_26 rfl (lv_at hl 0 rfl) ?_
  refine lv_bipush (v := 6) hx hb dX7_newRoad_27 (by decide) ?_
  refine lv_icmp_ge (tgt := 50) hx hb dX7_newRoad_29 (by decide) (fun c_3 => absurd c_3 (by decide)) (fun c_3 => ?_)
  refine lv_aload_n hx hb dX7_newRoad_32 rfl (lv_at hl 1 rfl) ?_
  refine va_get (D := D) (ci := 5) (v := .ref (am 12)) (C := RX7) (T := TX7) (N := 37) hx hb hT iw_TX7 hown hK.1 hP 0 rfl rfl 14 (by decide) (hT _ wd_944) (fun _ h9 => h9) rfl dX7_newRoad_33 ?_
  refine lv_iload_n hx hb dX7_newRoad_36 rfl (lv_at hl 0 rfl) ?_
  refine gx_aldA hx hb hK.1 hP 3 3 rfl rfl (gx_vin rfl) dX7_newRoad_37 ?_
  refine gx_csr (v := .ref (am 70)) (congrArg va_rf (hgl 0 (by decide))) ?_
  refine lv_aload_n hx hb dX7_newRoad_38 rfl (lv_at hl 1 rfl) ?_
  refine va_get (D := D) (ci := 5) (v := .int 0) (C := RX7) (T := TX7) (N := 37) hx hb hT iw_TX7 hown hK.1 hP 0 rfl rfl 10 (by decide) (hT _ wd_940) (fun _ h9 => h9) rfl dX7_newRoad_39 ?_
  refine lv_iconst (v := (-1)) hx hb dX7_newRoad_42 (by decide) ?_
  refine va_iast hx hb hK.1 hP hD hS 4 0 rfl rfl (gx_vin rfl) dX7_newRoad_43 (fun H locs hP hD hS => ?_)
  obtain ⟨f_4, ef_4⟩ : ∃ f9, f9 = upd (gx_zz 0) (0 : Int32).toNatClampNeg ((-1) : Int32) := ⟨_, rfl⟩
  have hP : va_P D gx_cl [(hm, .inr (5, [.ref (am 1), .ref (am 2), .ref (am 3), .ref (am 4), .ref (am 5), .ref (am 6), .ref (am 7), .ref (am 8), .int 0, .ref (am 9), .int 0, .ref (am 10), .int 0, .ref (am 11), .ref (am 12), .int 0, .int 0, .int 1, .null, .null, .int 0, .int 0, .int 0, .long 0, .int 0, .ref (am 13), .int 0, .int 0, .int 0, .ref (am 14), .ref (am 15), .ref (am 16), .ref (am 17), .int 0, .ref (am 18), .ref (am 19), .ref (am 20)])), ((am 10), .inl (k 3, 16, .inr (.inr (.inr (.inr gd))))), ((am 40), .inl (k 0, 5, .inl f_2)), ((am 12), .inl (k 3, 6, .inr (.inr (.inr (.inr gl))))), ((am 70), .inl (k 0, 16, .inl f_4)), ((am 71), .inl (k 0, 16, .inl (gx_zz 1))), ((am 72), .inl (k 0, 16, .inl (gx_zz 2))), ((am 73), .inl (k 0, 16, .inl (gx_zz 3))), ((am 74), .inl (k 0, 16, .inl (gx_zz 4))), ((am 75), .inl (k 0, 16, .inl (gx_zz 5)))] H := by subst ef_4; exact hP
  have hD : va_D A [(hm, .inr (5, [.ref (am 1), .ref (am 2), .ref (am 3), .ref (am 4), .ref (am 5), .ref (am 6), .ref (am 7), .ref (am 8), .int 0, .ref (am 9), .int 0, .ref (am 10), .int 0, .ref (am 11), .ref (am 12), .int 0, .int 0, .int 1, .null, .null, .int 0, .int 0, .int 0, .long 0, .int 0, .ref (am 13), .int 0, .int 0, .int 0, .ref (am 14), .ref (am 15), .ref (am 16), .ref (am 17), .int 0, .ref (am 18), .ref (am 19), .ref (am 20)])), ((am 10), .inl (k 3, 16, .inr (.inr (.inr (.inr gd))))), ((am 40), .inl (k 0, 5, .inl f_2)), ((am 12), .inl (k 3, 6, .inr (.inr (.inr (.inr gl))))), ((am 70), .inl (k 0, 16, .inl f_4)), ((am 71), .inl (k 0, 16, .inl (gx_zz 1))), ((am 72), .inl (k 0, 16, .inl (gx_zz 2))), ((am 73), .inl (k 0, 16, .inl (gx_zz 3))), ((am 74), .inl (k 0, 16, .inl (gx_zz 4))), ((am 75), .inl (k 0, 16, .inl (gx_zz 5)))] := by subst ef_4; exact hD
  refine lv_iinc (v := 1) (lv' := [(1, .int 1), (0, .ref hm)]) hx hb dX7_newRoad_44 hl (k := 0) rfl (by decide) (by decide) rfl (fun ls hl => ?_)
  refine lv_goto (tgt := 26) hx hb dX7_newRoad_47 (by decide) ?_
  refine lv_iload_n hx hb dX7_newRoad_26 rfl (lv_at hl 0 rfl) ?_
  refine lv_bipush (v := 6) hx hb dX7_newRoad_27 (by decide) ?_
  refine lv_icmp_ge (tgt := 50) hx hb dX7_newRoad_29 (by decide) (fun c_5 => absurd c_5 (by decide)) (fun c_5 => ?_)
  refine lv_aload_n hx hb dX7_newRoad_32 rfl (lv_at hl 1 rfl) ?_
  refine va_get (D := D) (ci := 5) (v := .ref (am 12)) (C := RX7) (T := TX7) (N := 37) hx hb hT iw_TX7 hown hK.1 hP 0 rfl rfl 14 (by decide) (hT _ wd_944) (fun _ h9 => h9) rfl dX7_newRoad_33 ?_
  refine lv_iload_n hx hb dX7_newRoad_36 rfl (lv_at hl 0 rfl) ?_
  refine gx_aldA hx hb hK.1 hP 3 3 rfl rfl (gx_vin rfl) dX7_newRoad_37 ?_
  refine gx_csr (v := .ref (am 71)) (congrArg va_rf (hgl 1 (by decide))) ?_
  refine lv_aload_n hx hb dX7_newRoad_38 rfl (lv_at hl 1 rfl) ?_
  refine va_get (D := D) (ci := 5) (v := .int 0) (C := RX7) (T := TX7) (N := 37) hx hb hT iw_TX7 hown hK.1 hP 0 rfl rfl 10 (by decide) (hT _ wd_940) (fun _ h9 => h9) rfl dX7_newRoad_39 ?_
  refine lv_iconst (v := (-1)) hx hb dX7_newRoad_42 (by decide) ?_
  refine va_iast hx hb hK.1 hP hD hS 5 0 rfl rfl (gx_vin rfl) dX7_newRoad_43 (fun H locs hP hD hS => ?_)
  obtain ⟨f_6, ef_6⟩ : ∃ f9, f9 = upd (gx_zz 1) (0 : Int32).toNatClampNeg ((-1) : Int32) := ⟨_, rfl⟩
  have hP : va_P D gx_cl [(hm, .inr (5, [.ref (am 1), .ref (am 2), .ref (am 3), .ref (am 4), .ref (am 5), .ref (am 6), .ref (am 7), .ref (am 8), .int 0, .ref (am 9), .int 0, .ref (am 10), .int 0, .ref (am 11), .ref (am 12), .int 0, .int 0, .int 1, .null, .null, .int 0, .int 0, .int 0, .long 0, .int 0, .ref (am 13), .int 0, .int 0, .int 0, .ref (am 14), .ref (am 15), .ref (am 16), .ref (am 17), .int 0, .ref (am 18), .ref (am 19), .ref (am 20)])), ((am 10), .inl (k 3, 16, .inr (.inr (.inr (.inr gd))))), ((am 40), .inl (k 0, 5, .inl f_2)), ((am 12), .inl (k 3, 6, .inr (.inr (.inr (.inr gl))))), ((am 70), .inl (k 0, 16, .inl f_4)), ((am 71), .inl (k 0, 16, .inl f_6)), ((am 72), .inl (k 0, 16, .inl (gx_zz 2))), ((am 73), .inl (k 0, 16, .inl (gx_zz 3))), ((am 74), .inl (k 0, 16, .inl (gx_zz 4))), ((am 75), .inl (k 0, 16, .inl (gx_zz 5)))] H := by subst ef_6; exact hP
  have hD : va_D A [(hm, .inr (5, [.ref (am 1), .ref (am 2), .ref (am 3), .ref (am 4), .ref (am 5), .ref (am 6), .ref (am 7), .ref (am 8), .int 0, .ref (am 9), .int 0, .ref (am 10), .int 0, .ref (am 11), .ref (am 12), .int 0, .int 0, .int 1, .null, .null, .int 0, .int 0, .int 0, .long 0, .int 0, .ref (am 13), .int 0, .int 0, .int 0, .ref (am 14), .ref (am 15), .ref (am 16), .ref (am 17), .int 0, .ref (am 18), .ref (am 19), .ref (am 20)])), ((am 10), .inl (k 3, 16, .inr (.inr (.inr (.inr gd))))), ((am 40), .inl (k 0, 5, .inl f_2)), ((am 12), .inl (k 3, 6, .inr (.inr (.inr (.inr gl))))), ((am 70), .inl (k 0, 16, .inl f_4)), ((am 71), .inl (k 0, 16, .inl f_6)), ((am 72), .inl (k 0, 16, .inl (gx_zz 2))), ((am 73), .inl (k 0, 16, .inl (gx_zz 3))), ((am 74), .inl (k 0, 16, .inl (gx_zz 4))), ((am 75), .inl (k 0, 16, .inl (gx_zz 5)))] := by subst ef_6; exact hD
  refine lv_iinc (v := 2) (lv' := [(1, .int 2), (0, .ref hm)]) hx hb dX7_newRoad_44 hl (k := 0) rfl (by decide) (by decide) rfl (fun ls hl => ?_)
  refine lv_goto (tgt := 26) hx hb dX7_newRoad_47 (by decide) ?_
  refine lv_iload_n hx hb dX7_newRoad_26 rfl (lv_at hl 0 rfl) ?_
  refine lv_bipush (v := 6) hx hb dX7_newRoad_27 (by decide) ?_
  refine lv_icmp_ge (tgt := 50) hx hb dX7_newRoad_29 (by decide) (fun c_7 => absurd c_7 (by decide)) (fun c_7 => ?_)
  refine lv_aload_n hx hb dX7_newRoad_32 rfl (lv_at hl 1 rfl) ?_
  refine va_get (D := D) (ci := 5) (v := .ref (am 12)) (C := RX7) (T := TX7) (N := 37) hx hb hT iw_TX7 hown hK.1 hP 0 rfl rfl 14 (by decide) (hT _ wd_944) (fun _ h9 => h9) rfl dX7_newRoad_33 ?_
  refine lv_iload_n hx hb dX7_newRoad_36 rfl (lv_at hl 0 rfl) ?_
  refine gx_aldA hx hb hK.1 hP 3 3 rfl rfl (gx_vin rfl) dX7_newRoad_37 ?_
  refine gx_csr (v := .ref (am 72)) (congrArg va_rf (hgl 2 (by decide))) ?_
  refine lv_aload_n hx hb dX7_newRoad_38 rfl (lv_at hl 1 rfl) ?_
  refine va_get (D := D) (ci := 5) (v := .int 0) (C := RX7) (T := TX7) (N := 37) hx hb hT iw_TX7 hown hK.1 hP 0 rfl rfl 10 (by decide) (hT _ wd_940) (fun _ h9 => h9) rfl dX7_newRoad_39 ?_
  refine lv_iconst (v := (-1)) hx hb dX7_newRoad_42 (by decide) ?_
  refine va_iast hx hb hK.1 hP hD hS 6 0 rfl rfl (gx_vin rfl) dX7_newRoad_43 (fun H locs hP hD hS => ?_)
  obtain ⟨f_8, ef_8⟩ : ∃ f9, f9 = upd (gx_zz 2) (0 : Int32).toNatClampNeg ((-1) : Int32) := ⟨_, rfl⟩
  have hP : va_P D gx_cl [(hm, .inr (5, [.ref (am 1), .ref (am 2), .ref (am 3), .ref (am 4), .ref (am 5), .ref (am 6), .ref (am 7), .ref (am 8), .int 0, .ref (am 9), .int 0, .ref (am 10), .int 0, .ref (am 11), .ref (am 12), .int 0, .int 0, .int 1, .null, .null, .int 0, .int 0, .int 0, .long 0, .int 0, .ref (am 13), .int 0, .int 0, .int 0, .ref (am 14), .ref (am 15), .ref (am 16), .ref (am 17), .int 0, .ref (am 18), .ref (am 19), .ref (am 20)])), ((am 10), .inl (k 3, 16, .inr (.inr (.inr (.inr gd))))), ((am 40), .inl (k 0, 5, .inl f_2)), ((am 12), .inl (k 3, 6, .inr (.inr (.inr (.inr gl))))), ((am 70), .inl (k 0, 16, .inl f_4)), ((am 71), .inl (k 0, 16, .inl f_6)), ((am 72), .inl (k 0, 16, .inl f_8)), ((am 73), .inl (k 0, 16, .inl (gx_zz 3))), ((am 74), .inl (k 0, 16, .inl (gx_zz 4))), ((am 75), .inl (k 0, 16, .inl (gx_zz 5)))] H := by subst ef_8; exact hP
  have hD : va_D A [(hm, .inr (5, [.ref (am 1), .ref (am 2), .ref (am 3), .ref (am 4), .ref (am 5), .ref (am 6), .ref (am 7), .ref (am 8), .int 0, .ref (am 9), .int 0, .ref (am 10), .int 0, .ref (am 11), .ref (am 12), .int 0, .int 0, .int 1, .null, .null, .int 0, .int 0, .int 0, .long 0, .int 0, .ref (am 13), .int 0, .int 0, .int 0, .ref (am 14), .ref (am 15), .ref (am 16), .ref (am 17), .int 0, .ref (am 18), .ref (am 19), .ref (am 20)])), ((am 10), .inl (k 3, 16, .inr (.inr (.inr (.inr gd))))), ((am 40), .inl (k 0, 5, .inl f_2)), ((am 12), .inl (k 3, 6, .inr (.inr (.inr (.inr gl))))), ((am 70), .inl (k 0, 16, .inl f_4)), ((am 71), .inl (k 0, 16, .inl f_6)), ((am 72), .inl (k 0, 16, .inl f_8)), ((am 73), .inl (k 0, 16, .inl (gx_zz 3))), ((am 74), .inl (k 0, 16, .inl (gx_zz 4))), ((am 75), .inl (k 0, 16, .inl (gx_zz 5)))] := by subst ef_8; exact hD
  refine lv_iinc (v := 3) (lv' := [(1, .int 3), (0, .ref hm)]) hx hb dX7_newRoad_44 hl (k := 0) rfl (by decide) (by decide) rfl (fun ls hl => ?_)
  refine lv_goto (tgt := 26) hx hb dX7_newRoad_47 (by decide) ?_
  refine lv_iload_n hx hb dX7_newRoad_26 rfl (lv_at hl 0 rfl) ?_
  refine lv_bipush (v := 6) hx hb dX7_newRoad_27 (by decide) ?_
  refine lv_icmp_ge (tgt := 50) hx hb dX7_newRoad_29 (by decide) (fun c_9 => absurd c_9 (by decide)) (fun c_9 => ?_)
  refine lv_aload_n hx hb dX7_newRoad_32 rfl (lv_at hl 1 rfl) ?_
  refine va_get (D := D) (ci := 5) (v := .ref (am 12)) (C := RX7) (T := TX7) (N := 37) hx hb hT iw_TX7 hown hK.1 hP 0 rfl rfl 14 (by decide) (hT _ wd_944) (fun _ h9 => h9) rfl dX7_newRoad_33 ?_
  refine lv_iload_n hx hb dX7_newRoad_36 rfl (lv_at hl 0 rfl) ?_
  refine gx_aldA hx hb hK.1 hP 3 3 rfl rfl (gx_vin rfl) dX7_newRoad_37 ?_
  refine gx_csr (v := .ref (am 73)) (congrArg va_rf (hgl 3 (by decide))) ?_
  refine lv_aload_n hx hb dX7_newRoad_38 rfl (lv_at hl 1 rfl) ?_
  refine va_get (D := D) (ci := 5) (v := .int 0) (C := RX7) (T := TX7) (N := 37) hx hb hT iw_TX7 hown hK.1 hP 0 rfl rfl 10 (by decide) (hT _ wd_940) (fun _ h9 => h9) rfl dX7_newRoad_39 ?_
  refine lv_iconst (v := (-1)) hx hb dX7_newRoad_42 (by decide) ?_
  refine va_iast hx hb hK.1 hP hD hS 7 0 rfl rfl (gx_vin rfl) dX7_newRoad_43 (fun H locs hP hD hS => ?_)
  obtain ⟨f_10, ef_10⟩ : ∃ f9, f9 = upd (gx_zz 3) (0 : Int32).toNatClampNeg ((-1) : Int32) := ⟨_, rfl⟩
  have hP : va_P D gx_cl [(hm, .inr (5, [.ref (am 1), .ref (am 2), .ref (am 3), .ref (am 4), .ref (am 5), .ref (am 6), .ref (am 7), .ref (am 8), .int 0, .ref (am 9), .int 0, .ref (am 10), .int 0, .ref (am 11), .ref (am 12), .int 0, .int 0, .int 1, .null, .null, .int 0, .int 0, .int 0, .long 0, .int 0, .ref (am 13), .int 0, .int 0, .int 0, .ref (am 14), .ref (am 15), .ref (am 16), .ref (am 17), .int 0, .ref (am 18), .ref (am 19), .ref (am 20)])), ((am 10), .inl (k 3, 16, .inr (.inr (.inr (.inr gd))))), ((am 40), .inl (k 0, 5, .inl f_2)), ((am 12), .inl (k 3, 6, .inr (.inr (.inr (.inr gl))))), ((am 70), .inl (k 0, 16, .inl f_4)), ((am 71), .inl (k 0, 16, .inl f_6)), ((am 72), .inl (k 0, 16, .inl f_8)), ((am 73), .inl (k 0, 16, .inl f_10)), ((am 74), .inl (k 0, 16, .inl (gx_zz 4))), ((am 75), .inl (k 0, 16, .inl (gx_zz 5)))] H := by subst ef_10; exact hP
  have hD : va_D A [(hm, .inr (5, [.ref (am 1), .ref (am 2), .ref (am 3), .ref (am 4), .ref (am 5), .ref (am 6), .ref (am 7), .ref (am 8), .int 0, .ref (am 9), .int 0, .ref (am 10), .int 0, .ref (am 11), .ref (am 12), .int 0, .int 0, .int 1, .null, .null, .int 0, .int 0, .int 0, .long 0, .int 0, .ref (am 13), .int 0, .int 0, .int 0, .ref (am 14), .ref (am 15), .ref (am 16), .ref (am 17), .int 0, .ref (am 18), .ref (am 19), .ref (am 20)])), ((am 10), .inl (k 3, 16, .inr (.inr (.inr (.inr gd))))), ((am 40), .inl (k 0, 5, .inl f_2)), ((am 12), .inl (k 3, 6, .inr (.inr (.inr (.inr gl))))), ((am 70), .inl (k 0, 16, .inl f_4)), ((am 71), .inl (k 0, 16, .inl f_6)), ((am 72), .inl (k 0, 16, .inl f_8)), ((am 73), .inl (k 0, 16, .inl f_10)), ((am 74), .inl (k 0, 16, .inl (gx_zz 4))), ((am 75), .inl (k 0, 16, .inl (gx_zz 5)))] := by subst ef_10; exact hD
  refine lv_iinc (v := 4) (lv' := [(1, .int 4), (0, .ref hm)]) hx hb dX7_newRoad_44 hl (k := 0) rfl (by decide) (by decide) rfl (fun ls hl => ?_)
  refine lv_goto (tgt := 26) hx hb dX7_newRoad_47 (by decide) ?_
  refine lv_iload_n hx hb dX7_newRoad_26 rfl (lv_at hl 0 rfl) ?_
  refine lv_bipush (v := 6) hx hb dX7_newRoad_27 (by decide) ?_
  refine lv_icmp_ge (tgt := 50) hx hb dX7_newRoad_29 (by decide) (fun c_11 => absurd c_11 (by decide)) (fun c_11 => ?_)
  refine lv_aload_n hx hb dX7_newRoad_32 rfl (lv_at hl 1 rfl) ?_
  refine va_get (D := D) (ci := 5) (v := .ref (am 12)) (C := RX7) (T := TX7) (N := 37) hx hb hT iw_TX7 hown hK.1 hP 0 rfl rfl 14 (by decide) (hT _ wd_944) (fun _ h9 => h9) rfl dX7_newRoad_33 ?_
  refine lv_iload_n hx hb dX7_newRoad_36 rfl (lv_at hl 0 rfl) ?_
  refine gx_aldA hx hb hK.1 hP 3 3 rfl rfl (gx_vin rfl) dX7_newRoad_37 ?_
  refine gx_csr (v := .ref (am 74)) (congrArg va_rf (hgl 4 (by decide))) ?_
  refine lv_aload_n hx hb dX7_newRoad_38 rfl (lv_at hl 1 rfl) ?_
  refine va_get (D := D) (ci := 5) (v := .int 0) (C := RX7) (T := TX7) (N := 37) hx hb hT iw_TX7 hown hK.1 hP 0 rfl rfl 10 (by decide) (hT _ wd_940) (fun _ h9 => h9) rfl dX7_newRoad_39 ?_
  refine lv_iconst (v := (-1)) hx hb dX7_newRoad_42 (by decide) ?_
  refine va_iast hx hb hK.1 hP hD hS 8 0 rfl rfl (gx_vin rfl) dX7_newRoad_43 (fun H locs hP hD hS => ?_)
  obtain ⟨f_12, ef_12⟩ : ∃ f9, f9 = upd (gx_zz 4) (0 : Int32).toNatClampNeg ((-1) : Int32) := ⟨_, rfl⟩
  have hP : va_P D gx_cl [(hm, .inr (5, [.ref (am 1), .ref (am 2), .ref (am 3), .ref (am 4), .ref (am 5), .ref (am 6), .ref (am 7), .ref (am 8), .int 0, .ref (am 9), .int 0, .ref (am 10), .int 0, .ref (am 11), .ref (am 12), .int 0, .int 0, .int 1, .null, .null, .int 0, .int 0, .int 0, .long 0, .int 0, .ref (am 13), .int 0, .int 0, .int 0, .ref (am 14), .ref (am 15), .ref (am 16), .ref (am 17), .int 0, .ref (am 18), .ref (am 19), .ref (am 20)])), ((am 10), .inl (k 3, 16, .inr (.inr (.inr (.inr gd))))), ((am 40), .inl (k 0, 5, .inl f_2)), ((am 12), .inl (k 3, 6, .inr (.inr (.inr (.inr gl))))), ((am 70), .inl (k 0, 16, .inl f_4)), ((am 71), .inl (k 0, 16, .inl f_6)), ((am 72), .inl (k 0, 16, .inl f_8)), ((am 73), .inl (k 0, 16, .inl f_10)), ((am 74), .inl (k 0, 16, .inl f_12)), ((am 75), .inl (k 0, 16, .inl (gx_zz 5)))] H := by subst ef_12; exact hP
  have hD : va_D A [(hm, .inr (5, [.ref (am 1), .ref (am 2), .ref (am 3), .ref (am 4), .ref (am 5), .ref (am 6), .ref (am 7), .ref (am 8), .int 0, .ref (am 9), .int 0, .ref (am 10), .int 0, .ref (am 11), .ref (am 12), .int 0, .int 0, .int 1, .null, .null, .int 0, .int 0, .int 0, .long 0, .int 0, .ref (am 13), .int 0, .int 0, .int 0, .ref (am 14), .ref (am 15), .ref (am 16), .ref (am 17), .int 0, .ref (am 18), .ref (am 19), .ref (am 20)])), ((am 10), .inl (k 3, 16, .inr (.inr (.inr (.inr gd))))), ((am 40), .inl (k 0, 5, .inl f_2)), ((am 12), .inl (k 3, 6, .inr (.inr (.inr (.inr gl))))), ((am 70), .inl (k 0, 16, .inl f_4)), ((am 71), .inl (k 0, 16, .inl f_6)), ((am 72), .inl (k 0, 16, .inl f_8)), ((am 73), .inl (k 0, 16, .inl f_10)), ((am 74), .inl (k 0, 16, .inl f_12)), ((am 75), .inl (k 0, 16, .inl (gx_zz 5)))] := by subst ef_12; exact hD
  refine lv_iinc (v := 5) (lv' := [(1, .int 5), (0, .ref hm)]) hx hb dX7_newRoad_44 hl (k := 0) rfl (by decide) (by decide) rfl (fun ls hl => ?_)
  refine lv_goto (tgt := 26) hx hb dX7_newRoad_47 (by decide) ?_
  refine lv_iload_n hx hb dX7_newRoad_26 rfl (lv_at hl 0 rfl) ?_
  refine lv_bipush (v := 6) hx hb dX7_newRoad_27 (by decide) ?_
  refine lv_icmp_ge (tgt := 50) hx hb dX7_newRoad_29 (by decide) (fun c_13 => absurd c_13 (by decide)) (fun c_13 => ?_)
  refine lv_aload_n hx hb dX7_newRoad_32 rfl (lv_at hl 1 rfl) ?_
  refine va_get (D := D) (ci := 5) (v := .ref (am 12)) (C := RX7) (T := TX7) (N := 37) hx hb hT iw_TX7 hown hK.1 hP 0 rfl rfl 14 (by decide) (hT _ wd_944) (fun _ h9 => h9) rfl dX7_newRoad_33 ?_
  refine lv_iload_n hx hb dX7_newRoad_36 rfl (lv_at hl 0 rfl) ?_
  refine gx_aldA hx hb hK.1 hP 3 3 rfl rfl (gx_vin rfl) dX7_newRoad_37 ?_
  refine gx_csr (v := .ref (am 75)) (congrArg va_rf (hgl 5 (by decide))) ?_
  refine lv_aload_n hx hb dX7_newRoad_38 rfl (lv_at hl 1 rfl) ?_
  refine va_get (D := D) (ci := 5) (v := .int 0) (C := RX7) (T := TX7) (N := 37) hx hb hT iw_TX7 hown hK.1 hP 0 rfl rfl 10 (by decide) (hT _ wd_940) (fun _ h9 => h9) rfl dX7_newRoad_39 ?_
  refine lv_iconst (v := (-1)) hx hb dX7_newRoad_42 (by decide) ?_
  refine va_iast hx hb hK.1 hP hD hS 9 0 rfl rfl (gx_vin rfl) dX7_newRoad_43 (fun H locs hP hD hS => ?_)
  obtain ⟨f_14, ef_14⟩ : ∃ f9, f9 = upd (gx_zz 5) (0 : Int32).toNatClampNeg ((-1) : Int32) := ⟨_, rfl⟩
  have hP : va_P D gx_cl [(hm, .inr (5, [.ref (am 1), .ref (am 2), .ref (am 3), .ref (am 4), .ref (am 5), .ref (am 6), .ref (am 7), .ref (am 8), .int 0, .ref (am 9), .int 0, .ref (am 10), .int 0, .ref (am 11), .ref (am 12), .int 0, .int 0, .int 1, .null, .null, .int 0, .int 0, .int 0, .long 0, .int 0, .ref (am 13), .int 0, .int 0, .int 0, .ref (am 14), .ref (am 15), .ref (am 16), .ref (am 17), .int 0, .ref (am 18), .ref (am 19), .ref (am 20)])), ((am 10), .inl (k 3, 16, .inr (.inr (.inr (.inr gd))))), ((am 40), .inl (k 0, 5, .inl f_2)), ((am 12), .inl (k 3, 6, .inr (.inr (.inr (.inr gl))))), ((am 70), .inl (k 0, 16, .inl f_4)), ((am 71), .inl (k 0, 16, .inl f_6)), ((am 72), .inl (k 0, 16, .inl f_8)), ((am 73), .inl (k 0, 16, .inl f_10)), ((am 74), .inl (k 0, 16, .inl f_12)), ((am 75), .inl (k 0, 16, .inl f_14))] H := by subst ef_14; exact hP
  have hD : va_D A [(hm, .inr (5, [.ref (am 1), .ref (am 2), .ref (am 3), .ref (am 4), .ref (am 5), .ref (am 6), .ref (am 7), .ref (am 8), .int 0, .ref (am 9), .int 0, .ref (am 10), .int 0, .ref (am 11), .ref (am 12), .int 0, .int 0, .int 1, .null, .null, .int 0, .int 0, .int 0, .long 0, .int 0, .ref (am 13), .int 0, .int 0, .int 0, .ref (am 14), .ref (am 15), .ref (am 16), .ref (am 17), .int 0, .ref (am 18), .ref (am 19), .ref (am 20)])), ((am 10), .inl (k 3, 16, .inr (.inr (.inr (.inr gd))))), ((am 40), .inl (k 0, 5, .inl f_2)), ((am 12), .inl (k 3, 6, .inr (.inr (.inr (.inr gl))))), ((am 70), .inl (k 0, 16, .inl f_4)), ((am 71), .inl (k 0, 16, .inl f_6)), ((am 72), .inl (k 0, 16, .inl f_8)), ((am 73), .inl (k 0, 16, .inl f_10)), ((am 74), .inl (k 0, 16, .inl f_12)), ((am 75), .inl (k 0, 16, .inl f_14))] := by subst ef_14; exact hD
  refine lv_iinc (v := 6) (lv' := [(1, .int 6), (0, .ref hm)]) hx hb dX7_newRoad_44 hl (k := 0) rfl (by decide) (by decide) rfl (fun ls hl => ?_)
  refine lv_goto (tgt := 26) hx hb dX7_newRoad_47 (by decide) ?_
  refine lv_iload_n hx hb dX7_newRoad_26 rfl (lv_at hl 0 rfl) ?_
  refine lv_bipush (v := 6) hx hb dX7_newRoad_27 (by decide) ?_
  refine lv_icmp_ge (tgt := 50) hx hb dX7_newRoad_29 (by decide) (fun c_15 => ?_) (fun c_15 => absurd (by decide) c_15)
  have hP9 := gx_subP (wc := ([(hm, .inr (5, [.ref (am 1), .ref (am 2), .ref (am 3), .ref (am 4), .ref (am 5), .ref (am 6), .ref (am 7), .ref (am 8), .int 0, .ref (am 9), .int 0, .ref (am 10), .int 0, .ref (am 11), .ref (am 12), .int 0, .int 0, .int 1, .null, .null, .int 0, .int 0, .int 0, .long 0, .int 0, .ref (am 13), .int 0, .int 0, .int 0, .ref (am 14), .ref (am 15), .ref (am 16), .ref (am 17), .int 0, .ref (am 18), .ref (am 19), .ref (am 20)])), ((am 10), .inl (k 3, 16, .inr (.inr (.inr (.inr gd))))), ((am 40), .inl (k 0, 5, .inl f_2))] : va_W)) hP [0, 1, 2] rfl
  have hD9 := hD.sub (ws' := ([(hm, .inr (5, [.ref (am 1), .ref (am 2), .ref (am 3), .ref (am 4), .ref (am 5), .ref (am 6), .ref (am 7), .ref (am 8), .int 0, .ref (am 9), .int 0, .ref (am 10), .int 0, .ref (am 11), .ref (am 12), .int 0, .int 0, .int 1, .null, .null, .int 0, .int 0, .int 0, .long 0, .int 0, .ref (am 13), .int 0, .int 0, .int 0, .ref (am 14), .ref (am 15), .ref (am 16), .ref (am 17), .int 0, .ref (am 18), .ref (am 19), .ref (am 20)])), ((am 10), .inl (k 3, 16, .inr (.inr (.inr (.inr gd))))), ((am 40), .inl (k 0, 5, .inl f_2))] : va_W)) [0, 1, 2] (by decide) rfl
  exact gx_retV C (u := f_2) hP9 hD9 hS (trivial) dX7_newRoad_50
set_option maxHeartbeats 4000000 in
set_option maxRecDepth 100000 in
theorem m_newOne (l : Launch) (D : va_G) (k : Nat → ClassId) (hm : Nat) (am : Nat → Nat) (go : Nat → Option Nat) (gl : Nat → Option Nat) (hv : Int32) (hgo : ∀ i, i < 6 → go i = some (am (60 + i))) (hgl : ∀ i, i < 6 → gl i = some (am (70 + i))) (sz : Nat) : Met l yX7_newOne (.code yX7_newOne cX7_newOne 3 none :: gx_T) ({ frames := 0, cells := 0, slots := 0, locals := 0 }) (gx_Pre D k [.ref hm, .int hv] ([(hm, .inr (5, [.ref (am 1), .ref (am 2), .ref (am 3), .ref (am 4), .ref (am 5), .ref (am 6), .ref (am 7), .ref (am 8), .int 0, .ref (am 9), .int 0, .ref (am 10), .int 0, .ref (am 11), .ref (am 12), .int 0, .int 0, .int 1, .null, .null, .int 0, .int 0, .int 0, .long 0, .int 0, .ref (am 13), .int 0, .int 0, .int 0, .ref (am 14), .ref (am 15), .ref (am 16), .ref (am 17), .int 0, .ref (am 18), .ref (am 19), .ref (am 20)])), ((am 11), .inl (k 3, 6, .inr (.inr (.inr (.inr go))))), ((am 60), .inl (k 0, 4, .inl (gx_zz 0))), ((am 12), .inl (k 3, 6, .inr (.inr (.inr (.inr gl))))), ((am 70), .inl (k 0, 16, .inl (gx_zz 0)))]) sz) (gx_Qv D (fun (u : Unit) => True) (fun (u : Unit) => ([(hm, .inr (5, [.ref (am 1), .ref (am 2), .ref (am 3), .ref (am 4), .ref (am 5), .ref (am 6), .ref (am 7), .ref (am 8), .int 0, .ref (am 9), .int 0, .ref (am 10), .int 1, .ref (am 11), .ref (am 12), .int 0, .int 0, .int 1, .null, .null, .int 0, .int 0, .int 0, .long 0, .int 0, .ref (am 13), .int 0, .int 0, .int 0, .ref (am 14), .ref (am 15), .ref (am 16), .ref (am 17), .int 0, .ref (am 18), .ref (am 19), .ref (am 20)]))] : va_W)) (va_A ([(hm, .inr (5, [.ref (am 1), .ref (am 2), .ref (am 3), .ref (am 4), .ref (am 5), .ref (am 6), .ref (am 7), .ref (am 8), .int 0, .ref (am 9), .int 0, .ref (am 10), .int 0, .ref (am 11), .ref (am 12), .int 0, .int 0, .int 1, .null, .null, .int 0, .int 0, .int 0, .long 0, .int 0, .ref (am 13), .int 0, .int 0, .int 0, .ref (am 14), .ref (am 15), .ref (am 16), .ref (am 17), .int 0, .ref (am 18), .ref (am 19), .ref (am 20)])), ((am 11), .inl (k 3, 6, .inr (.inr (.inr (.inr go))))), ((am 60), .inl (k 0, 4, .inl (gx_zz 0))), ((am 12), .inl (k 3, 6, .inr (.inr (.inr (.inr gl))))), ((am 70), .inl (k 0, 16, .inl (gx_zz 0)))]) sz)) 0 0 (va_A ([(hm, .inr (5, [.ref (am 1), .ref (am 2), .ref (am 3), .ref (am 4), .ref (am 5), .ref (am 6), .ref (am 7), .ref (am 8), .int 0, .ref (am 9), .int 0, .ref (am 10), .int 0, .ref (am 11), .ref (am 12), .int 0, .int 0, .int 1, .null, .null, .int 0, .int 0, .int 0, .long 0, .int 0, .ref (am 13), .int 0, .int 0, .int 0, .ref (am 14), .ref (am 15), .ref (am 16), .ref (am 17), .int 0, .ref (am 18), .ref (am 19), .ref (am 20)])), ((am 11), .inl (k 3, 6, .inr (.inr (.inr (.inr go))))), ((am 60), .inl (k 0, 4, .inl (gx_zz 0))), ((am 12), .inl (k 3, 6, .inr (.inr (.inr (.inr gl))))), ((am 70), .inl (k 0, 16, .inl (gx_zz 0)))]) sz) := by
  refine gx_metE (Qc := fun A => gx_Qv D (fun (u : Unit) => True) (fun (u : Unit) => ([(hm, .inr (5, [.ref (am 1), .ref (am 2), .ref (am 3), .ref (am 4), .ref (am 5), .ref (am 6), .ref (am 7), .ref (am 8), .int 0, .ref (am 9), .int 0, .ref (am 10), .int 1, .ref (am 11), .ref (am 12), .int 0, .int 0, .int 1, .null, .null, .int 0, .int 0, .int 0, .long 0, .int 0, .ref (am 13), .int 0, .int 0, .int 0, .ref (am 14), .ref (am 15), .ref (am 16), .ref (am 17), .int 0, .ref (am 18), .ref (am 19), .ref (am 20)]))] : va_W)) A) (y := yX7_newOne) (cc := cX7_newOne) (n := 3) (ret := none) (av := [.ref hm, .int hv]) (by decide) (Nat.le_of_ble_eq_true rfl) ?_
  intro p e s m below meth c A ls C hA hP hD hK hS hl
  obtain ⟨hx, hb, hr, hml, hown, hT, hlk, hin⟩ := id C
  have hown : s.vm.findClass RX7 = some m.cls := hown
  have hl : lv_has ls 3 [(0, .ref hm), (1, .int hv)] := hl
  refine lv_aload_n hx hb dX7_newOne_0 rfl (lv_at hl 0 rfl) ?_
  refine va_get (D := D) (ci := 5) (v := .ref (am 11)) (C := RX7) (T := TX7) (N := 37) hx hb hT iw_TX7 hown hK.1 hP 0 rfl rfl 13 (by decide) (hT _ wd_943) (fun _ h9 => h9) rfl dX7_newOne_1 ?_
  refine lv_aload_n hx hb dX7_newOne_4 rfl (lv_at hl 0 rfl) ?_
  refine va_get (D := D) (ci := 5) (v := .int 0) (C := RX7) (T := TX7) (N := 37) hx hb hT iw_TX7 hown hK.1 hP 0 rfl rfl 12 (by decide) (hT _ wd_942) (fun _ h9 => h9) rfl dX7_newOne_5 ?_
  refine gx_aldA hx hb hK.1 hP 1 3 rfl rfl (gx_vin rfl) dX7_newOne_8 ?_
  refine gx_csr (v := .ref (am 60)) (congrArg va_rf (hgo 0 (by decide))) ?_
  refine lv_iconst (v := 0) hx hb dX7_newOne_9 (by decide) ?_
  refine lv_iload_n hx hb dX7_newOne_10 rfl (lv_at hl 1 rfl) ?_
  refine va_iast hx hb hK.1 hP hD hS 2 0 rfl rfl (gx_vin rfl) dX7_newOne_11 (fun H locs hP hD hS => ?_)
  obtain ⟨f_1, ef_1⟩ : ∃ f9, f9 = upd (gx_zz 0) (0 : Int32).toNatClampNeg (hv : Int32) := ⟨_, rfl⟩
  have hP : va_P D gx_cl [(hm, .inr (5, [.ref (am 1), .ref (am 2), .ref (am 3), .ref (am 4), .ref (am 5), .ref (am 6), .ref (am 7), .ref (am 8), .int 0, .ref (am 9), .int 0, .ref (am 10), .int 0, .ref (am 11), .ref (am 12), .int 0, .int 0, .int 1, .null, .null, .int 0, .int 0, .int 0, .long 0, .int 0, .ref (am 13), .int 0, .int 0, .int 0, .ref (am 14), .ref (am 15), .ref (am 16), .ref (am 17), .int 0, .ref (am 18), .ref (am 19), .ref (am 20)])), ((am 11), .inl (k 3, 6, .inr (.inr (.inr (.inr go))))), ((am 60), .inl (k 0, 4, .inl f_1)), ((am 12), .inl (k 3, 6, .inr (.inr (.inr (.inr gl))))), ((am 70), .inl (k 0, 16, .inl (gx_zz 0)))] H := by subst ef_1; exact hP
  have hD : va_D A [(hm, .inr (5, [.ref (am 1), .ref (am 2), .ref (am 3), .ref (am 4), .ref (am 5), .ref (am 6), .ref (am 7), .ref (am 8), .int 0, .ref (am 9), .int 0, .ref (am 10), .int 0, .ref (am 11), .ref (am 12), .int 0, .int 0, .int 1, .null, .null, .int 0, .int 0, .int 0, .long 0, .int 0, .ref (am 13), .int 0, .int 0, .int 0, .ref (am 14), .ref (am 15), .ref (am 16), .ref (am 17), .int 0, .ref (am 18), .ref (am 19), .ref (am 20)])), ((am 11), .inl (k 3, 6, .inr (.inr (.inr (.inr go))))), ((am 60), .inl (k 0, 4, .inl f_1)), ((am 12), .inl (k 3, 6, .inr (.inr (.inr (.inr gl))))), ((am 70), .inl (k 0, 16, .inl (gx_zz 0)))] := by subst ef_1; exact hD
  refine lv_aload_n hx hb dX7_newOne_12 rfl (lv_at hl 0 rfl) ?_
  refine va_get (D := D) (ci := 5) (v := .ref (am 11)) (C := RX7) (T := TX7) (N := 37) hx hb hT iw_TX7 hown hK.1 hP 0 rfl rfl 13 (by decide) (hT _ wd_943) (fun _ h9 => h9) rfl dX7_newOne_13 ?_
  refine lv_aload_n hx hb dX7_newOne_16 rfl (lv_at hl 0 rfl) ?_
  refine va_get (D := D) (ci := 5) (v := .int 0) (C := RX7) (T := TX7) (N := 37) hx hb hT iw_TX7 hown hK.1 hP 0 rfl rfl 12 (by decide) (hT _ wd_942) (fun _ h9 => h9) rfl dX7_newOne_17 ?_
  refine gx_aldA hx hb hK.1 hP 1 3 rfl rfl (gx_vin rfl) dX7_newOne_20 ?_
  refine gx_csr (v := .ref (am 60)) (congrArg va_rf (hgo 0 (by decide))) ?_
  refine lv_iconst (v := 1) hx hb dX7_newOne_21 (by decide) ?_
  refine lv_iload_n hx hb dX7_newOne_22 rfl (lv_at hl 1 rfl) ?_
  refine va_iast hx hb hK.1 hP hD hS 2 0 rfl rfl (gx_vin rfl) dX7_newOne_23 (fun H locs hP hD hS => ?_)
  obtain ⟨f_2, ef_2⟩ : ∃ f9, f9 = upd f_1 (1 : Int32).toNatClampNeg (hv : Int32) := ⟨_, rfl⟩
  have hP : va_P D gx_cl [(hm, .inr (5, [.ref (am 1), .ref (am 2), .ref (am 3), .ref (am 4), .ref (am 5), .ref (am 6), .ref (am 7), .ref (am 8), .int 0, .ref (am 9), .int 0, .ref (am 10), .int 0, .ref (am 11), .ref (am 12), .int 0, .int 0, .int 1, .null, .null, .int 0, .int 0, .int 0, .long 0, .int 0, .ref (am 13), .int 0, .int 0, .int 0, .ref (am 14), .ref (am 15), .ref (am 16), .ref (am 17), .int 0, .ref (am 18), .ref (am 19), .ref (am 20)])), ((am 11), .inl (k 3, 6, .inr (.inr (.inr (.inr go))))), ((am 60), .inl (k 0, 4, .inl f_2)), ((am 12), .inl (k 3, 6, .inr (.inr (.inr (.inr gl))))), ((am 70), .inl (k 0, 16, .inl (gx_zz 0)))] H := by subst ef_2; exact hP
  have hD : va_D A [(hm, .inr (5, [.ref (am 1), .ref (am 2), .ref (am 3), .ref (am 4), .ref (am 5), .ref (am 6), .ref (am 7), .ref (am 8), .int 0, .ref (am 9), .int 0, .ref (am 10), .int 0, .ref (am 11), .ref (am 12), .int 0, .int 0, .int 1, .null, .null, .int 0, .int 0, .int 0, .long 0, .int 0, .ref (am 13), .int 0, .int 0, .int 0, .ref (am 14), .ref (am 15), .ref (am 16), .ref (am 17), .int 0, .ref (am 18), .ref (am 19), .ref (am 20)])), ((am 11), .inl (k 3, 6, .inr (.inr (.inr (.inr go))))), ((am 60), .inl (k 0, 4, .inl f_2)), ((am 12), .inl (k 3, 6, .inr (.inr (.inr (.inr gl))))), ((am 70), .inl (k 0, 16, .inl (gx_zz 0)))] := by subst ef_2; exact hD
  refine lv_aload_n hx hb dX7_newOne_24 rfl (lv_at hl 0 rfl) ?_
  refine va_get (D := D) (ci := 5) (v := .ref (am 11)) (C := RX7) (T := TX7) (N := 37) hx hb hT iw_TX7 hown hK.1 hP 0 rfl rfl 13 (by decide) (hT _ wd_943) (fun _ h9 => h9) rfl dX7_newOne_25 ?_
  refine lv_aload_n hx hb dX7_newOne_28 rfl (lv_at hl 0 rfl) ?_
  refine va_get (D := D) (ci := 5) (v := .int 0) (C := RX7) (T := TX7) (N := 37) hx hb hT iw_TX7 hown hK.1 hP 0 rfl rfl 12 (by decide) (hT _ wd_942) (fun _ h9 => h9) rfl dX7_newOne_29 ?_
  refine gx_aldA hx hb hK.1 hP 1 3 rfl rfl (gx_vin rfl) dX7_newOne_32 ?_
  refine gx_csr (v := .ref (am 60)) (congrArg va_rf (hgo 0 (by decide))) ?_
  refine lv_iconst (v := 2) hx hb dX7_newOne_33 (by decide) ?_
  refine lv_iconst (v := 1) hx hb dX7_newOne_34 (by decide) ?_
  refine lv_iload_n hx hb dX7_newOne_35 rfl (lv_at hl 1 rfl) ?_
  refine lv_ishl hx hb dX7_newOne_36 ?_
  refine va_iast hx hb hK.1 hP hD hS 2 0 rfl rfl (gx_vin rfl) dX7_newOne_37 (fun H locs hP hD hS => ?_)
  obtain ⟨f_3, ef_3⟩ : ∃ f9, f9 = upd f_2 (2 : Int32).toNatClampNeg (((1 : Int32) <<< (hv &&& 31)) : Int32) := ⟨_, rfl⟩
  have hP : va_P D gx_cl [(hm, .inr (5, [.ref (am 1), .ref (am 2), .ref (am 3), .ref (am 4), .ref (am 5), .ref (am 6), .ref (am 7), .ref (am 8), .int 0, .ref (am 9), .int 0, .ref (am 10), .int 0, .ref (am 11), .ref (am 12), .int 0, .int 0, .int 1, .null, .null, .int 0, .int 0, .int 0, .long 0, .int 0, .ref (am 13), .int 0, .int 0, .int 0, .ref (am 14), .ref (am 15), .ref (am 16), .ref (am 17), .int 0, .ref (am 18), .ref (am 19), .ref (am 20)])), ((am 11), .inl (k 3, 6, .inr (.inr (.inr (.inr go))))), ((am 60), .inl (k 0, 4, .inl f_3)), ((am 12), .inl (k 3, 6, .inr (.inr (.inr (.inr gl))))), ((am 70), .inl (k 0, 16, .inl (gx_zz 0)))] H := by subst ef_3; exact hP
  have hD : va_D A [(hm, .inr (5, [.ref (am 1), .ref (am 2), .ref (am 3), .ref (am 4), .ref (am 5), .ref (am 6), .ref (am 7), .ref (am 8), .int 0, .ref (am 9), .int 0, .ref (am 10), .int 0, .ref (am 11), .ref (am 12), .int 0, .int 0, .int 1, .null, .null, .int 0, .int 0, .int 0, .long 0, .int 0, .ref (am 13), .int 0, .int 0, .int 0, .ref (am 14), .ref (am 15), .ref (am 16), .ref (am 17), .int 0, .ref (am 18), .ref (am 19), .ref (am 20)])), ((am 11), .inl (k 3, 6, .inr (.inr (.inr (.inr go))))), ((am 60), .inl (k 0, 4, .inl f_3)), ((am 12), .inl (k 3, 6, .inr (.inr (.inr (.inr gl))))), ((am 70), .inl (k 0, 16, .inl (gx_zz 0)))] := by subst ef_3; exact hD
  refine lv_aload_n hx hb dX7_newOne_38 rfl (lv_at hl 0 rfl) ?_
  refine va_get (D := D) (ci := 5) (v := .ref (am 11)) (C := RX7) (T := TX7) (N := 37) hx hb hT iw_TX7 hown hK.1 hP 0 rfl rfl 13 (by decide) (hT _ wd_943) (fun _ h9 => h9) rfl dX7_newOne_39 ?_
  refine lv_aload_n hx hb dX7_newOne_42 rfl (lv_at hl 0 rfl) ?_
  refine va_get (D := D) (ci := 5) (v := .int 0) (C := RX7) (T := TX7) (N := 37) hx hb hT iw_TX7 hown hK.1 hP 0 rfl rfl 12 (by decide) (hT _ wd_942) (fun _ h9 => h9) rfl dX7_newOne_43 ?_
  refine gx_aldA hx hb hK.1 hP 1 3 rfl rfl (gx_vin rfl) dX7_newOne_46 ?_
  refine gx_csr (v := .ref (am 60)) (congrArg va_rf (hgo 0 (by decide))) ?_
  refine lv_iconst (v := 3) hx hb dX7_newOne_47 (by decide) ?_
  refine lv_iconst (v := 0) hx hb dX7_newOne_48 (by decide) ?_
  refine va_iast hx hb hK.1 hP hD hS 2 0 rfl rfl (gx_vin rfl) dX7_newOne_49 (fun H locs hP hD hS => ?_)
  obtain ⟨f_4, ef_4⟩ : ∃ f9, f9 = upd f_3 (3 : Int32).toNatClampNeg (0 : Int32) := ⟨_, rfl⟩
  have hP : va_P D gx_cl [(hm, .inr (5, [.ref (am 1), .ref (am 2), .ref (am 3), .ref (am 4), .ref (am 5), .ref (am 6), .ref (am 7), .ref (am 8), .int 0, .ref (am 9), .int 0, .ref (am 10), .int 0, .ref (am 11), .ref (am 12), .int 0, .int 0, .int 1, .null, .null, .int 0, .int 0, .int 0, .long 0, .int 0, .ref (am 13), .int 0, .int 0, .int 0, .ref (am 14), .ref (am 15), .ref (am 16), .ref (am 17), .int 0, .ref (am 18), .ref (am 19), .ref (am 20)])), ((am 11), .inl (k 3, 6, .inr (.inr (.inr (.inr go))))), ((am 60), .inl (k 0, 4, .inl f_4)), ((am 12), .inl (k 3, 6, .inr (.inr (.inr (.inr gl))))), ((am 70), .inl (k 0, 16, .inl (gx_zz 0)))] H := by subst ef_4; exact hP
  have hD : va_D A [(hm, .inr (5, [.ref (am 1), .ref (am 2), .ref (am 3), .ref (am 4), .ref (am 5), .ref (am 6), .ref (am 7), .ref (am 8), .int 0, .ref (am 9), .int 0, .ref (am 10), .int 0, .ref (am 11), .ref (am 12), .int 0, .int 0, .int 1, .null, .null, .int 0, .int 0, .int 0, .long 0, .int 0, .ref (am 13), .int 0, .int 0, .int 0, .ref (am 14), .ref (am 15), .ref (am 16), .ref (am 17), .int 0, .ref (am 18), .ref (am 19), .ref (am 20)])), ((am 11), .inl (k 3, 6, .inr (.inr (.inr (.inr go))))), ((am 60), .inl (k 0, 4, .inl f_4)), ((am 12), .inl (k 3, 6, .inr (.inr (.inr (.inr gl))))), ((am 70), .inl (k 0, 16, .inl (gx_zz 0)))] := by subst ef_4; exact hD
  refine lv_iconst (v := 0) hx hb dX7_newOne_50 (by decide) ?_
  refine lv_istore_n (lv' := [(2, .int 0), (0, .ref hm), (1, .int hv)]) hx hb dX7_newOne_51 rfl hl (by decide) rfl (fun ls hl => ?_)
  refine lv_iload_n hx hb dX7_newOne_52 rfl (lv_at hl 0 rfl) ?_
  refine lv_bipush (v := 16) hx hb dX7_newOne_53 (by decide) ?_
  refine lv_icmp_ge (tgt := 76) hx hb dX7_newOne_55 (by decide) (fun c_5 => absurd c_5 (by decide)) (fun c_5 => ?_)
  refine lv_aload_n hx hb dX7_newOne_58 rfl (lv_at hl 1 rfl) ?_
  refine va_get (D := D) (ci := 5) (v := .ref (am 12)) (C := RX7) (T := TX7) (N := 37) hx hb hT iw_TX7 hown hK.1 hP 0 rfl rfl 14 (by decide) (hT _ wd_944) (fun _ h9 => h9) rfl dX7_newOne_59 ?_
  refine lv_aload_n hx hb dX7_newOne_62 rfl (lv_at hl 1 rfl) ?_
  refine va_get (D := D) (ci := 5) (v := .int 0) (C := RX7) (T := TX7) (N := 37) hx hb hT iw_TX7 hown hK.1 hP 0 rfl rfl 12 (by decide) (hT _ wd_942) (fun _ h9 => h9) rfl dX7_newOne_63 ?_
  refine gx_aldA hx hb hK.1 hP 3 3 rfl rfl (gx_vin rfl) dX7_newOne_66 ?_
  refine gx_csr (v := .ref (am 70)) (congrArg va_rf (hgl 0 (by decide))) ?_
  refine lv_iload_n hx hb dX7_newOne_67 rfl (lv_at hl 0 rfl) ?_
  refine lv_iconst (v := (-1)) hx hb dX7_newOne_68 (by decide) ?_
  refine va_iast hx hb hK.1 hP hD hS 4 0 rfl rfl (gx_vin rfl) dX7_newOne_69 (fun H locs hP hD hS => ?_)
  obtain ⟨f_6, ef_6⟩ : ∃ f9, f9 = upd (gx_zz 0) (0 : Int32).toNatClampNeg ((-1) : Int32) := ⟨_, rfl⟩
  have hP : va_P D gx_cl [(hm, .inr (5, [.ref (am 1), .ref (am 2), .ref (am 3), .ref (am 4), .ref (am 5), .ref (am 6), .ref (am 7), .ref (am 8), .int 0, .ref (am 9), .int 0, .ref (am 10), .int 0, .ref (am 11), .ref (am 12), .int 0, .int 0, .int 1, .null, .null, .int 0, .int 0, .int 0, .long 0, .int 0, .ref (am 13), .int 0, .int 0, .int 0, .ref (am 14), .ref (am 15), .ref (am 16), .ref (am 17), .int 0, .ref (am 18), .ref (am 19), .ref (am 20)])), ((am 11), .inl (k 3, 6, .inr (.inr (.inr (.inr go))))), ((am 60), .inl (k 0, 4, .inl f_4)), ((am 12), .inl (k 3, 6, .inr (.inr (.inr (.inr gl))))), ((am 70), .inl (k 0, 16, .inl f_6))] H := by subst ef_6; exact hP
  have hD : va_D A [(hm, .inr (5, [.ref (am 1), .ref (am 2), .ref (am 3), .ref (am 4), .ref (am 5), .ref (am 6), .ref (am 7), .ref (am 8), .int 0, .ref (am 9), .int 0, .ref (am 10), .int 0, .ref (am 11), .ref (am 12), .int 0, .int 0, .int 1, .null, .null, .int 0, .int 0, .int 0, .long 0, .int 0, .ref (am 13), .int 0, .int 0, .int 0, .ref (am 14), .ref (am 15), .ref (am 16), .ref (am 17), .int 0, .ref (am 18), .ref (am 19), .ref (am 20)])), ((am 11), .inl (k 3, 6, .inr (.inr (.inr (.inr go))))), ((am 60), .inl (k 0, 4, .inl f_4)), ((am 12), .inl (k 3, 6, .inr (.inr (.inr (.inr gl))))), ((am 70), .inl (k 0, 16, .inl f_6))] := by subst ef_6; exact hD
  refine lv_iinc (v := 1) (lv' := [(2, .int 1), (0, .ref hm), (1, .int hv)]) hx hb dX7_newOne_70 hl (k := 0) rfl (by decide) (by decide) rfl (fun ls hl => ?_)
  refine lv_goto (tgt := 52) hx hb dX7_newOne_73 (by decide) ?_
  refine lv_iload_n hx hb dX7_newOne_52 rfl (lv_at hl 0 rfl) ?_
  refine lv_bipush (v := 16) hx hb dX7_newOne_53 (by decide) ?_
  refine lv_icmp_ge (tgt := 76) hx hb dX7_newOne_55 (by decide) (fun c_7 => absurd c_7 (by decide)) (fun c_7 => ?_)
  refine lv_aload_n hx hb dX7_newOne_58 rfl (lv_at hl 1 rfl) ?_
  refine va_get (D := D) (ci := 5) (v := .ref (am 12)) (C := RX7) (T := TX7) (N := 37) hx hb hT iw_TX7 hown hK.1 hP 0 rfl rfl 14 (by decide) (hT _ wd_944) (fun _ h9 => h9) rfl dX7_newOne_59 ?_
  refine lv_aload_n hx hb dX7_newOne_62 rfl (lv_at hl 1 rfl) ?_
  refine va_get (D := D) (ci := 5) (v := .int 0) (C := RX7) (T := TX7) (N := 37) hx hb hT iw_TX7 hown hK.1 hP 0 rfl rfl 12 (by decide) (hT _ wd_942) (fun _ h9 => h9) rfl dX7_newOne_63 ?_
  refine gx_aldA hx hb hK.1 hP 3 3 rfl rfl (gx_vin rfl) dX7_newOne_66 ?_
  refine gx_csr (v := .ref (am 70)) (congrArg va_rf (hgl 0 (by decide))) ?_
  refine lv_iload_n hx hb dX7_newOne_67 rfl (lv_at hl 0 rfl) ?_
  refine lv_iconst (v := (-1)) hx hb dX7_newOne_68 (by decide) ?_
  refine va_iast hx hb hK.1 hP hD hS 4 0 rfl rfl (gx_vin rfl) dX7_newOne_69 (fun H locs hP hD hS => ?_)
  obtain ⟨f_8, ef_8⟩ : ∃ f9, f9 = upd f_6 (1 : Int32).toNatClampNeg ((-1) : Int32) := ⟨_, rfl⟩
  have hP : va_P D gx_cl [(hm, .inr (5, [.ref (am 1), .ref (am 2), .ref (am 3), .ref (am 4), .ref (am 5), .ref (am 6), .ref (am 7), .ref (am 8), .int 0, .ref (am 9), .int 0, .ref (am 10), .int 0, .ref (am 11), .ref (am 12), .int 0, .int 0, .int 1, .null, .null, .int 0, .int 0, .int 0, .long 0, .int 0, .ref (am 13), .int 0, .int 0, .int 0, .ref (am 14), .ref (am 15), .ref (am 16), .ref (am 17), .int 0, .ref (am 18), .ref (am 19), .ref (am 20)])), ((am 11), .inl (k 3, 6, .inr (.inr (.inr (.inr go))))), ((am 60), .inl (k 0, 4, .inl f_4)), ((am 12), .inl (k 3, 6, .inr (.inr (.inr (.inr gl))))), ((am 70), .inl (k 0, 16, .inl f_8))] H := by subst ef_8; exact hP
  have hD : va_D A [(hm, .inr (5, [.ref (am 1), .ref (am 2), .ref (am 3), .ref (am 4), .ref (am 5), .ref (am 6), .ref (am 7), .ref (am 8), .int 0, .ref (am 9), .int 0, .ref (am 10), .int 0, .ref (am 11), .ref (am 12), .int 0, .int 0, .int 1, .null, .null, .int 0, .int 0, .int 0, .long 0, .int 0, .ref (am 13), .int 0, .int 0, .int 0, .ref (am 14), .ref (am 15), .ref (am 16), .ref (am 17), .int 0, .ref (am 18), .ref (am 19), .ref (am 20)])), ((am 11), .inl (k 3, 6, .inr (.inr (.inr (.inr go))))), ((am 60), .inl (k 0, 4, .inl f_4)), ((am 12), .inl (k 3, 6, .inr (.inr (.inr (.inr gl))))), ((am 70), .inl (k 0, 16, .inl f_8))] := by subst ef_8; exact hD
  refine lv_iinc (v := 2) (lv' := [(2, .int 2), (0, .ref hm), (1, .int hv)]) hx hb dX7_newOne_70 hl (k := 0) rfl (by decide) (by decide) rfl (fun ls hl => ?_)
  refine lv_goto (tgt := 52) hx hb dX7_newOne_73 (by decide) ?_
  refine lv_iload_n hx hb dX7_newOne_52 rfl (lv_at hl 0 rfl) ?_
  refine lv_bipush (v := 16) hx hb dX7_newOne_53 (by decide) ?_
  refine lv_icmp_ge (tgt := 76) hx hb dX7_newOne_55 (by decide) (fun c_9 => absurd c_9 (by decide)) (fun c_9 => ?_)
  refine lv_aload_n hx hb dX7_newOne_58 rfl (lv_at hl 1 rfl) ?_
  refine va_get (D := D) (ci := 5) (v := .ref (am 12)) (C := RX7) (T := TX7) (N := 37) hx hb hT iw_TX7 hown hK.1 hP 0 rfl rfl 14 (by decide) (hT _ wd_944) (fun _ h9 => h9) rfl dX7_newOne_59 ?_
  refine lv_aload_n hx hb dX7_newOne_62 rfl (lv_at hl 1 rfl) ?_
  refine va_get (D := D) (ci := 5) (v := .int 0) (C := RX7) (T := TX7) (N := 37) hx hb hT iw_TX7 hown hK.1 hP 0 rfl rfl 12 (by decide) (hT _ wd_942) (fun _ h9 => h9) rfl dX7_newOne_63 ?_
  refine gx_aldA hx hb hK.1 hP 3 3 rfl rfl (gx_vin rfl) dX7_newOne_66 ?_
  refine gx_csr (v := .ref (am 70)) (congrArg va_rf (hgl 0 (by decide))) ?_
  refine lv_iload_n hx hb dX7_newOne_67 rfl (lv_at hl 0 rfl) ?_
  refine lv_iconst (v := (-1)) hx hb dX7_newOne_68 (by decide) ?_
  refine va_iast hx hb hK.1 hP hD hS 4 0 rfl rfl (gx_vin rfl) dX7_newOne_69 (fun H locs hP hD hS => ?_)
  obtain ⟨f_10, ef_10⟩ : ∃ f9, f9 = upd f_8 (2 : Int32).toNatClampNeg ((-1) : Int32) := ⟨_, rfl⟩
  have hP : va_P D gx_cl [(hm, .inr (5, [.ref (am 1), .ref (am 2), .ref (am 3), .ref (am 4), .ref (am 5), .ref (am 6), .ref (am 7), .ref (am 8), .int 0, .ref (am 9), .int 0, .ref (am 10), .int 0, .ref (am 11), .ref (am 12), .int 0, .int 0, .int 1, .null, .null, .int 0, .int 0, .int 0, .long 0, .int 0, .ref (am 13), .int 0, .int 0, .int 0, .ref (am 14), .ref (am 15), .ref (am 16), .ref (am 17), .int 0, .ref (am 18), .ref (am 19), .ref (am 20)])), ((am 11), .inl (k 3, 6, .inr (.inr (.inr (.inr go))))), ((am 60), .inl (k 0, 4, .inl f_4)), ((am 12), .inl (k 3, 6, .inr (.inr (.inr (.inr gl))))), ((am 70), .inl (k 0, 16, .inl f_10))] H := by subst ef_10; exact hP
  have hD : va_D A [(hm, .inr (5, [.ref (am 1), .ref (am 2), .ref (am 3), .ref (am 4), .ref (am 5), .ref (am 6), .ref (am 7), .ref (am 8), .int 0, .ref (am 9), .int 0, .ref (am 10), .int 0, .ref (am 11), .ref (am 12), .int 0, .int 0, .int 1, .null, .null, .int 0, .int 0, .int 0, .long 0, .int 0, .ref (am 13), .int 0, .int 0, .int 0, .ref (am 14), .ref (am 15), .ref (am 16), .ref (am 17), .int 0, .ref (am 18), .ref (am 19), .ref (am 20)])), ((am 11), .inl (k 3, 6, .inr (.inr (.inr (.inr go))))), ((am 60), .inl (k 0, 4, .inl f_4)), ((am 12), .inl (k 3, 6, .inr (.inr (.inr (.inr gl))))), ((am 70), .inl (k 0, 16, .inl f_10))] := by subst ef_10; exact hD
  refine lv_iinc (v := 3) (lv' := [(2, .int 3), (0, .ref hm), (1, .int hv)]) hx hb dX7_newOne_70 hl (k := 0) rfl (by decide) (by decide) rfl (fun ls hl => ?_)
  refine lv_goto (tgt := 52) hx hb dX7_newOne_73 (by decide) ?_
  refine lv_iload_n hx hb dX7_newOne_52 rfl (lv_at hl 0 rfl) ?_
  refine lv_bipush (v := 16) hx hb dX7_newOne_53 (by decide) ?_
  refine lv_icmp_ge (tgt := 76) hx hb dX7_newOne_55 (by decide) (fun c_11 => absurd c_11 (by decide)) (fun c_11 => ?_)
  refine lv_aload_n hx hb dX7_newOne_58 rfl (lv_at hl 1 rfl) ?_
  refine va_get (D := D) (ci := 5) (v := .ref (am 12)) (C := RX7) (T := TX7) (N := 37) hx hb hT iw_TX7 hown hK.1 hP 0 rfl rfl 14 (by decide) (hT _ wd_944) (fun _ h9 => h9) rfl dX7_newOne_59 ?_
  refine lv_aload_n hx hb dX7_newOne_62 rfl (lv_at hl 1 rfl) ?_
  refine va_get (D := D) (ci := 5) (v := .int 0) (C := RX7) (T := TX7) (N := 37) hx hb hT iw_TX7 hown hK.1 hP 0 rfl rfl 12 (by decide) (hT _ wd_942) (fun _ h9 => h9) rfl dX7_newOne_63 ?_
  refine gx_aldA hx hb hK.1 hP 3 3 rfl rfl (gx_vin rfl) dX7_newOne_66 ?_
  refine gx_csr (v := .ref (am 70)) (congrArg va_rf (hgl 0 (by decide))) ?_
  refine lv_iload_n hx hb dX7_newOne_67 rfl (lv_at hl 0 rfl) ?_
  refine lv_iconst (v := (-1)) hx hb dX7_newOne_68 (by decide) ?_
  refine va_iast hx hb hK.1 hP hD hS 4 0 rfl rfl (gx_vin rfl) dX7_newOne_69 (fun H locs hP hD hS => ?_)
  obtain ⟨f_12, ef_12⟩ : ∃ f9, f9 = upd f_10 (3 : Int32).toNatClampNeg ((-1) : Int32) := ⟨_, rfl⟩
  have hP : va_P D gx_cl [(hm, .inr (5, [.ref (am 1), .ref (am 2), .ref (am 3), .ref (am 4), .ref (am 5), .ref (am 6), .ref (am 7), .ref (am 8), .int 0, .ref (am 9), .int 0, .ref (am 10), .int 0, .ref (am 11), .ref (am 12), .int 0, .int 0, .int 1, .null, .null, .int 0, .int 0, .int 0, .long 0, .int 0, .ref (am 13), .int 0, .int 0, .int 0, .ref (am 14), .ref (am 15), .ref (am 16), .ref (am 17), .int 0, .ref (am 18), .ref (am 19), .ref (am 20)])), ((am 11), .inl (k 3, 6, .inr (.inr (.inr (.inr go))))), ((am 60), .inl (k 0, 4, .inl f_4)), ((am 12), .inl (k 3, 6, .inr (.inr (.inr (.inr gl))))), ((am 70), .inl (k 0, 16, .inl f_12))] H := by subst ef_12; exact hP
  have hD : va_D A [(hm, .inr (5, [.ref (am 1), .ref (am 2), .ref (am 3), .ref (am 4), .ref (am 5), .ref (am 6), .ref (am 7), .ref (am 8), .int 0, .ref (am 9), .int 0, .ref (am 10), .int 0, .ref (am 11), .ref (am 12), .int 0, .int 0, .int 1, .null, .null, .int 0, .int 0, .int 0, .long 0, .int 0, .ref (am 13), .int 0, .int 0, .int 0, .ref (am 14), .ref (am 15), .ref (am 16), .ref (am 17), .int 0, .ref (am 18), .ref (am 19), .ref (am 20)])), ((am 11), .inl (k 3, 6, .inr (.inr (.inr (.inr go))))), ((am 60), .inl (k 0, 4, .inl f_4)), ((am 12), .inl (k 3, 6, .inr (.inr (.inr (.inr gl))))), ((am 70), .inl (k 0, 16, .inl f_12))] := by subst ef_12; exact hD
  refine lv_iinc (v := 4) (lv' := [(2, .int 4), (0, .ref hm), (1, .int hv)]) hx hb dX7_newOne_70 hl (k := 0) rfl (by decide) (by decide) rfl (fun ls hl => ?_)
  refine lv_goto (tgt := 52) hx hb dX7_newOne_73 (by decide) ?_
  refine lv_iload_n hx hb dX7_newOne_52 rfl (lv_at hl 0 rfl) ?_
  refine lv_bipush (v := 16) hx hb dX7_newOne_53 (by decide) ?_
  refine lv_icmp_ge (tgt := 76) hx hb dX7_newOne_55 (by decide) (fun c_13 => absurd c_13 (by decide)) (fun c_13 => ?_)
  refine lv_aload_n hx hb dX7_newOne_58 rfl (lv_at hl 1 rfl) ?_
  refine va_get (D := D) (ci := 5) (v := .ref (am 12)) (C := RX7) (T := TX7) (N := 37) hx hb hT iw_TX7 hown hK.1 hP 0 rfl rfl 14 (by decide) (hT _ wd_944) (fun _ h9 => h9) rfl dX7_newOne_59 ?_
  refine lv_aload_n hx hb dX7_newOne_62 rfl (lv_at hl 1 rfl) ?_
  refine va_get (D := D) (ci := 5) (v := .int 0) (C := RX7) (T := TX7) (N := 37) hx hb hT iw_TX7 hown hK.1 hP 0 rfl rfl 12 (by decide) (hT _ wd_942) (fun _ h9 => h9) rfl dX7_newOne_63 ?_
  refine gx_aldA hx hb hK.1 hP 3 3 rfl rfl (gx_vin rfl) dX7_newOne_66 ?_
  refine gx_csr (v := .ref (am 70)) (congrArg va_rf (hgl 0 (by decide))) ?_
  refine lv_iload_n hx hb dX7_newOne_67 rfl (lv_at hl 0 rfl) ?_
  refine lv_iconst (v := (-1)) hx hb dX7_newOne_68 (by decide) ?_
  refine va_iast hx hb hK.1 hP hD hS 4 0 rfl rfl (gx_vin rfl) dX7_newOne_69 (fun H locs hP hD hS => ?_)
  obtain ⟨f_14, ef_14⟩ : ∃ f9, f9 = upd f_12 (4 : Int32).toNatClampNeg ((-1) : Int32) := ⟨_, rfl⟩
  have hP : va_P D gx_cl [(hm, .inr (5, [.ref (am 1), .ref (am 2), .ref (am 3), .ref (am 4), .ref (am 5), .ref (am 6), .ref (am 7), .ref (am 8), .int 0, .ref (am 9), .int 0, .ref (am 10), .int 0, .ref (am 11), .ref (am 12), .int 0, .int 0, .int 1, .null, .null, .int 0, .int 0, .int 0, .long 0, .int 0, .ref (am 13), .int 0, .int 0, .int 0, .ref (am 14), .ref (am 15), .ref (am 16), .ref (am 17), .int 0, .ref (am 18), .ref (am 19), .ref (am 20)])), ((am 11), .inl (k 3, 6, .inr (.inr (.inr (.inr go))))), ((am 60), .inl (k 0, 4, .inl f_4)), ((am 12), .inl (k 3, 6, .inr (.inr (.inr (.inr gl))))), ((am 70), .inl (k 0, 16, .inl f_14))] H := by subst ef_14; exact hP
  have hD : va_D A [(hm, .inr (5, [.ref (am 1), .ref (am 2), .ref (am 3), .ref (am 4), .ref (am 5), .ref (am 6), .ref (am 7), .ref (am 8), .int 0, .ref (am 9), .int 0, .ref (am 10), .int 0, .ref (am 11), .ref (am 12), .int 0, .int 0, .int 1, .null, .null, .int 0, .int 0, .int 0, .long 0, .int 0, .ref (am 13), .int 0, .int 0, .int 0, .ref (am 14), .ref (am 15), .ref (am 16), .ref (am 17), .int 0, .ref (am 18), .ref (am 19), .ref (am 20)])), ((am 11), .inl (k 3, 6, .inr (.inr (.inr (.inr go))))), ((am 60), .inl (k 0, 4, .inl f_4)), ((am 12), .inl (k 3, 6, .inr (.inr (.inr (.inr gl))))), ((am 70), .inl (k 0, 16, .inl f_14))] := by subst ef_14; exact hD
  refine lv_iinc (v := 5) (lv' := [(2, .int 5), (0, .ref hm), (1, .int hv)]) hx hb dX7_newOne_70 hl (k := 0) rfl (by decide) (by decide) rfl (fun ls hl => ?_)
  refine lv_goto (tgt := 52) hx hb dX7_newOne_73 (by decide) ?_
  refine lv_iload_n hx hb dX7_newOne_52 rfl (lv_at hl 0 rfl) ?_
  refine lv_bipush (v := 16) hx hb dX7_newOne_53 (by decide) ?_
  refine lv_icmp_ge (tgt := 76) hx hb dX7_newOne_55 (by decide) (fun c_15 => absurd c_15 (by decide)) (fun c_15 => ?_)
  refine lv_aload_n hx hb dX7_newOne_58 rfl (lv_at hl 1 rfl) ?_
  refine va_get (D := D) (ci := 5) (v := .ref (am 12)) (C := RX7) (T := TX7) (N := 37) hx hb hT iw_TX7 hown hK.1 hP 0 rfl rfl 14 (by decide) (hT _ wd_944) (fun _ h9 => h9) rfl dX7_newOne_59 ?_
  refine lv_aload_n hx hb dX7_newOne_62 rfl (lv_at hl 1 rfl) ?_
  refine va_get (D := D) (ci := 5) (v := .int 0) (C := RX7) (T := TX7) (N := 37) hx hb hT iw_TX7 hown hK.1 hP 0 rfl rfl 12 (by decide) (hT _ wd_942) (fun _ h9 => h9) rfl dX7_newOne_63 ?_
  refine gx_aldA hx hb hK.1 hP 3 3 rfl rfl (gx_vin rfl) dX7_newOne_66 ?_
  refine gx_csr (v := .ref (am 70)) (congrArg va_rf (hgl 0 (by decide))) ?_
  refine lv_iload_n hx hb dX7_newOne_67 rfl (lv_at hl 0 rfl) ?_
  refine lv_iconst (v := (-1)) hx hb dX7_newOne_68 (by decide) ?_
  refine va_iast hx hb hK.1 hP hD hS 4 0 rfl rfl (gx_vin rfl) dX7_newOne_69 (fun H locs hP hD hS => ?_)
  obtain ⟨f_16, ef_16⟩ : ∃ f9, f9 = upd f_14 (5 : Int32).toNatClampNeg ((-1) : Int32) := ⟨_, rfl⟩
  have hP : va_P D gx_cl [(hm, .inr (5, [.ref (am 1), .ref (am 2), .ref (am 3), .ref (am 4), .ref (am 5), .ref (am 6), .ref (am 7), .ref (am 8), .int 0, .ref (am 9), .int 0, .ref (am 10), .int 0, .ref (am 11), .ref (am 12), .int 0, .int 0, .int 1, .null, .null, .int 0, .int 0, .int 0, .long 0, .int 0, .ref (am 13), .int 0, .int 0, .int 0, .ref (am 14), .ref (am 15), .ref (am 16), .ref (am 17), .int 0, .ref (am 18), .ref (am 19), .ref (am 20)])), ((am 11), .inl (k 3, 6, .inr (.inr (.inr (.inr go))))), ((am 60), .inl (k 0, 4, .inl f_4)), ((am 12), .inl (k 3, 6, .inr (.inr (.inr (.inr gl))))), ((am 70), .inl (k 0, 16, .inl f_16))] H := by subst ef_16; exact hP
  have hD : va_D A [(hm, .inr (5, [.ref (am 1), .ref (am 2), .ref (am 3), .ref (am 4), .ref (am 5), .ref (am 6), .ref (am 7), .ref (am 8), .int 0, .ref (am 9), .int 0, .ref (am 10), .int 0, .ref (am 11), .ref (am 12), .int 0, .int 0, .int 1, .null, .null, .int 0, .int 0, .int 0, .long 0, .int 0, .ref (am 13), .int 0, .int 0, .int 0, .ref (am 14), .ref (am 15), .ref (am 16), .ref (am 17), .int 0, .ref (am 18), .ref (am 19), .ref (am 20)])), ((am 11), .inl (k 3, 6, .inr (.inr (.inr (.inr go))))), ((am 60), .inl (k 0, 4, .inl f_4)), ((am 12), .inl (k 3, 6, .inr (.inr (.inr (.inr gl))))), ((am 70), .inl (k 0, 16, .inl f_16))] := by subst ef_16; exact hD
  refine lv_iinc (v := 6) (lv' := [(2, .int 6), (0, .ref hm), (1, .int hv)]) hx hb dX7_newOne_70 hl (k := 0) rfl (by decide) (by decide) rfl (fun ls hl => ?_)
  refine lv_goto (tgt := 52) hx hb dX7_newOne_73 (by decide) ?_
  refine lv_iload_n hx hb dX7_newOne_52 rfl (lv_at hl 0 rfl) ?_
  refine lv_bipush (v := 16) hx hb dX7_newOne_53 (by decide) ?_
  refine lv_icmp_ge (tgt := 76) hx hb dX7_newOne_55 (by decide) (fun c_17 => absurd c_17 (by decide)) (fun c_17 => ?_)
  refine lv_aload_n hx hb dX7_newOne_58 rfl (lv_at hl 1 rfl) ?_
  refine va_get (D := D) (ci := 5) (v := .ref (am 12)) (C := RX7) (T := TX7) (N := 37) hx hb hT iw_TX7 hown hK.1 hP 0 rfl rfl 14 (by decide) (hT _ wd_944) (fun _ h9 => h9) rfl dX7_newOne_59 ?_
  refine lv_aload_n hx hb dX7_newOne_62 rfl (lv_at hl 1 rfl) ?_
  refine va_get (D := D) (ci := 5) (v := .int 0) (C := RX7) (T := TX7) (N := 37) hx hb hT iw_TX7 hown hK.1 hP 0 rfl rfl 12 (by decide) (hT _ wd_942) (fun _ h9 => h9) rfl dX7_newOne_63 ?_
  refine gx_aldA hx hb hK.1 hP 3 3 rfl rfl (gx_vin rfl) dX7_newOne_66 ?_
  refine gx_csr (v := .ref (am 70)) (congrArg va_rf (hgl 0 (by decide))) ?_
  refine lv_iload_n hx hb dX7_newOne_67 rfl (lv_at hl 0 rfl) ?_
  refine lv_iconst (v := (-1)) hx hb dX7_newOne_68 (by decide) ?_
  refine va_iast hx hb hK.1 hP hD hS 4 0 rfl rfl (gx_vin rfl) dX7_newOne_69 (fun H locs hP hD hS => ?_)
  obtain ⟨f_18, ef_18⟩ : ∃ f9, f9 = upd f_16 (6 : Int32).toNatClampNeg ((-1) : Int32) := ⟨_, rfl⟩
  have hP : va_P D gx_cl [(hm, .inr (5, [.ref (am 1), .ref (am 2), .ref (am 3), .ref (am 4), .ref (am 5), .ref (am 6), .ref (am 7), .ref (am 8), .int 0, .ref (am 9), .int 0, .ref (am 10), .int 0, .ref (am 11), .ref (am 12), .int 0, .int 0, .int 1, .null, .null, .int 0, .int 0, .int 0, .long 0, .int 0, .ref (am 13), .int 0, .int 0, .int 0, .ref (am 14), .ref (am 15), .ref (am 16), .ref (am 17), .int 0, .ref (am 18), .ref (am 19), .ref (am 20)])), ((am 11), .inl (k 3, 6, .inr (.inr (.inr (.inr go))))), ((am 60), .inl (k 0, 4, .inl f_4)), ((am 12), .inl (k 3, 6, .inr (.inr (.inr (.inr gl))))), ((am 70), .inl (k 0, 16, .inl f_18))] H := by subst ef_18; exact hP
  have hD : va_D A [(hm, .inr (5, [.ref (am 1), .ref (am 2), .ref (am 3), .ref (am 4), .ref (am 5), .ref (am 6), .ref (am 7), .ref (am 8), .int 0, .ref (am 9), .int 0, .ref (am 10), .int 0, .ref (am 11), .ref (am 12), .int 0, .int 0, .int 1, .null, .null, .int 0, .int 0, .int 0, .long 0, .int 0, .ref (am 13), .int 0, .int 0, .int 0, .ref (am 14), .ref (am 15), .ref (am 16), .ref (am 17), .int 0, .ref (am 18), .ref (am 19), .ref (am 20)])), ((am 11), .inl (k 3, 6, .inr (.inr (.inr (.inr go))))), ((am 60), .inl (k 0, 4, .inl f_4)), ((am 12), .inl (k 3, 6, .inr (.inr (.inr (.inr gl))))), ((am 70), .inl (k 0, 16, .inl f_18))] := by subst ef_18; exact hD
  refine lv_iinc (v := 7) (lv' := [(2, .int 7), (0, .ref hm), (1, .int hv)]) hx hb dX7_newOne_70 hl (k := 0) rfl (by decide) (by decide) rfl (fun ls hl => ?_)
  refine lv_goto (tgt := 52) hx hb dX7_newOne_73 (by decide) ?_
  refine lv_iload_n hx hb dX7_newOne_52 rfl (lv_at hl 0 rfl) ?_
  refine lv_bipush (v := 16) hx hb dX7_newOne_53 (by decide) ?_
  refine lv_icmp_ge (tgt := 76) hx hb dX7_newOne_55 (by decide) (fun c_19 => absurd c_19 (by decide)) (fun c_19 => ?_)
  refine lv_aload_n hx hb dX7_newOne_58 rfl (lv_at hl 1 rfl) ?_
  refine va_get (D := D) (ci := 5) (v := .ref (am 12)) (C := RX7) (T := TX7) (N := 37) hx hb hT iw_TX7 hown hK.1 hP 0 rfl rfl 14 (by decide) (hT _ wd_944) (fun _ h9 => h9) rfl dX7_newOne_59 ?_
  refine lv_aload_n hx hb dX7_newOne_62 rfl (lv_at hl 1 rfl) ?_
  refine va_get (D := D) (ci := 5) (v := .int 0) (C := RX7) (T := TX7) (N := 37) hx hb hT iw_TX7 hown hK.1 hP 0 rfl rfl 12 (by decide) (hT _ wd_942) (fun _ h9 => h9) rfl dX7_newOne_63 ?_
  refine gx_aldA hx hb hK.1 hP 3 3 rfl rfl (gx_vin rfl) dX7_newOne_66 ?_
  refine gx_csr (v := .ref (am 70)) (congrArg va_rf (hgl 0 (by decide))) ?_
  refine lv_iload_n hx hb dX7_newOne_67 rfl (lv_at hl 0 rfl) ?_
  refine lv_iconst (v := (-1)) hx hb dX7_newOne_68 (by decide) ?_
  refine va_iast hx hb hK.1 hP hD hS 4 0 rfl rfl (gx_vin rfl) dX7_newOne_69 (fun H locs hP hD hS => ?_)
  obtain ⟨f_20, ef_20⟩ : ∃ f9, f9 = upd f_18 (7 : Int32).toNatClampNeg ((-1) : Int32) := ⟨_, rfl⟩
  have hP : va_P D gx_cl [(hm, .inr (5, [.ref (am 1), .ref (am 2), .ref (am 3), .ref (am 4), .ref (am 5), .ref (am 6), .ref (am 7), .ref (am 8), .int 0, .ref (am 9), .int 0, .ref (am 10), .int 0, .ref (am 11), .ref (am 12), .int 0, .int 0, .int 1, .null, .null, .int 0, .int 0, .int 0, .long 0, .int 0, .ref (am 13), .int 0, .int 0, .int 0, .ref (am 14), .ref (am 15), .ref (am 16), .ref (am 17), .int 0, .ref (am 18), .ref (am 19), .ref (am 20)])), ((am 11), .inl (k 3, 6, .inr (.inr (.inr (.inr go))))), ((am 60), .inl (k 0, 4, .inl f_4)), ((am 12), .inl (k 3, 6, .inr (.inr (.inr (.inr gl))))), ((am 70), .inl (k 0, 16, .inl f_20))] H := by subst ef_20; exact hP
  have hD : va_D A [(hm, .inr (5, [.ref (am 1), .ref (am 2), .ref (am 3), .ref (am 4), .ref (am 5), .ref (am 6), .ref (am 7), .ref (am 8), .int 0, .ref (am 9), .int 0, .ref (am 10), .int 0, .ref (am 11), .ref (am 12), .int 0, .int 0, .int 1, .null, .null, .int 0, .int 0, .int 0, .long 0, .int 0, .ref (am 13), .int 0, .int 0, .int 0, .ref (am 14), .ref (am 15), .ref (am 16), .ref (am 17), .int 0, .ref (am 18), .ref (am 19), .ref (am 20)])), ((am 11), .inl (k 3, 6, .inr (.inr (.inr (.inr go))))), ((am 60), .inl (k 0, 4, .inl f_4)), ((am 12), .inl (k 3, 6, .inr (.inr (.inr (.inr gl))))), ((am 70), .inl (k 0, 16, .inl f_20))] := by subst ef_20; exact hD
  refine lv_iinc (v := 8) (lv' := [(2, .int 8), (0, .ref hm), (1, .int hv)]) hx hb dX7_newOne_70 hl (k := 0) rfl (by decide) (by decide) rfl (fun ls hl => ?_)
  refine lv_goto (tgt := 52) hx hb dX7_newOne_73 (by decide) ?_
  refine lv_iload_n hx hb dX7_newOne_52 rfl (lv_at hl 0 rfl) ?_
  refine lv_bipush (v := 16) hx hb dX7_newOne_53 (by decide) ?_
  refine lv_icmp_ge (tgt := 76) hx hb dX7_newOne_55 (by decide) (fun c_21 => absurd c_21 (by decide)) (fun c_21 => ?_)
  refine lv_aload_n hx hb dX7_newOne_58 rfl (lv_at hl 1 rfl) ?_
  refine va_get (D := D) (ci := 5) (v := .ref (am 12)) (C := RX7) (T := TX7) (N := 37) hx hb hT iw_TX7 hown hK.1 hP 0 rfl rfl 14 (by decide) (hT _ wd_944) (fun _ h9 => h9) rfl dX7_newOne_59 ?_
  refine lv_aload_n hx hb dX7_newOne_62 rfl (lv_at hl 1 rfl) ?_
  refine va_get (D := D) (ci := 5) (v := .int 0) (C := RX7) (T := TX7) (N := 37) hx hb hT iw_TX7 hown hK.1 hP 0 rfl rfl 12 (by decide) (hT _ wd_942) (fun _ h9 => h9) rfl dX7_newOne_63 ?_
  refine gx_aldA hx hb hK.1 hP 3 3 rfl rfl (gx_vin rfl) dX7_newOne_66 ?_
  refine gx_csr (v := .ref (am 70)) (congrArg va_rf (hgl 0 (by decide))) ?_
  refine lv_iload_n hx hb dX7_newOne_67 rfl (lv_at hl 0 rfl) ?_
  refine lv_iconst (v := (-1)) hx hb dX7_newOne_68 (by decide) ?_
  refine va_iast hx hb hK.1 hP hD hS 4 0 rfl rfl (gx_vin rfl) dX7_newOne_69 (fun H locs hP hD hS => ?_)
  obtain ⟨f_22, ef_22⟩ : ∃ f9, f9 = upd f_20 (8 : Int32).toNatClampNeg ((-1) : Int32) := ⟨_, rfl⟩
  have hP : va_P D gx_cl [(hm, .inr (5, [.ref (am 1), .ref (am 2), .ref (am 3), .ref (am 4), .ref (am 5), .ref (am 6), .ref (am 7), .ref (am 8), .int 0, .ref (am 9), .int 0, .ref (am 10), .int 0, .ref (am 11), .ref (am 12), .int 0, .int 0, .int 1, .null, .null, .int 0, .int 0, .int 0, .long 0, .int 0, .ref (am 13), .int 0, .int 0, .int 0, .ref (am 14), .ref (am 15), .ref (am 16), .ref (am 17), .int 0, .ref (am 18), .ref (am 19), .ref (am 20)])), ((am 11), .inl (k 3, 6, .inr (.inr (.inr (.inr go))))), ((am 60), .inl (k 0, 4, .inl f_4)), ((am 12), .inl (k 3, 6, .inr (.inr (.inr (.inr gl))))), ((am 70), .inl (k 0, 16, .inl f_22))] H := by subst ef_22; exact hP
  have hD : va_D A [(hm, .inr (5, [.ref (am 1), .ref (am 2), .ref (am 3), .ref (am 4), .ref (am 5), .ref (am 6), .ref (am 7), .ref (am 8), .int 0, .ref (am 9), .int 0, .ref (am 10), .int 0, .ref (am 11), .ref (am 12), .int 0, .int 0, .int 1, .null, .null, .int 0, .int 0, .int 0, .long 0, .int 0, .ref (am 13), .int 0, .int 0, .int 0, .ref (am 14), .ref (am 15), .ref (am 16), .ref (am 17), .int 0, .ref (am 18), .ref (am 19), .ref (am 20)])), ((am 11), .inl (k 3, 6, .inr (.inr (.inr (.inr go))))), ((am 60), .inl (k 0, 4, .inl f_4)), ((am 12), .inl (k 3, 6, .inr (.inr (.inr (.inr gl))))), ((am 70), .inl (k 0, 16, .inl f_22))] := by subst ef_22; exact hD
  refine lv_iinc (v := 9) (lv' := [(2, .int 9), (0, .ref hm), (1, .int hv)]) hx hb dX7_newOne_70 hl (k := 0) rfl (by decide) (by decide) rfl (fun ls hl => ?_)
  refine lv_goto (tgt := 52) hx hb dX7_newOne_73 (by decide) ?_
  refine lv_iload_n hx hb dX7_newOne_52 rfl (lv_at hl 0 rfl) ?_
  refine lv_bipush (v := 16) hx hb dX7_newOne_53 (by decide) ?_
  refine lv_icmp_ge (tgt := 76) hx hb dX7_newOne_55 (by decide) (fun c_23 => absurd c_23 (by decide)) (fun c_23 => ?_)
  refine lv_aload_n hx hb dX7_newOne_58 rfl (lv_at hl 1 rfl) ?_
  refine va_get (D := D) (ci := 5) (v := .ref (am 12)) (C := RX7) (T := TX7) (N := 37) hx hb hT iw_TX7 hown hK.1 hP 0 rfl rfl 14 (by decide) (hT _ wd_944) (fun _ h9 => h9) rfl dX7_newOne_59 ?_
  refine lv_aload_n hx hb dX7_newOne_62 rfl (lv_at hl 1 rfl) ?_
  refine va_get (D := D) (ci := 5) (v := .int 0) (C := RX7) (T := TX7) (N := 37) hx hb hT iw_TX7 hown hK.1 hP 0 rfl rfl 12 (by decide) (hT _ wd_942) (fun _ h9 => h9) rfl dX7_newOne_63 ?_
  refine gx_aldA hx hb hK.1 hP 3 3 rfl rfl (gx_vin rfl) dX7_newOne_66 ?_
  refine gx_csr (v := .ref (am 70)) (congrArg va_rf (hgl 0 (by decide))) ?_
  refine lv_iload_n hx hb dX7_newOne_67 rfl (lv_at hl 0 rfl) ?_
  refine lv_iconst (v := (-1)) hx hb dX7_newOne_68 (by decide) ?_
  refine va_iast hx hb hK.1 hP hD hS 4 0 rfl rfl (gx_vin rfl) dX7_newOne_69 (fun H locs hP hD hS => ?_)
  obtain ⟨f_24, ef_24⟩ : ∃ f9, f9 = upd f_22 (9 : Int32).toNatClampNeg ((-1) : Int32) := ⟨_, rfl⟩
  have hP : va_P D gx_cl [(hm, .inr (5, [.ref (am 1), .ref (am 2), .ref (am 3), .ref (am 4), .ref (am 5), .ref (am 6), .ref (am 7), .ref (am 8), .int 0, .ref (am 9), .int 0, .ref (am 10), .int 0, .ref (am 11), .ref (am 12), .int 0, .int 0, .int 1, .null, .null, .int 0, .int 0, .int 0, .long 0, .int 0, .ref (am 13), .int 0, .int 0, .int 0, .ref (am 14), .ref (am 15), .ref (am 16), .ref (am 17), .int 0, .ref (am 18), .ref (am 19), .ref (am 20)])), ((am 11), .inl (k 3, 6, .inr (.inr (.inr (.inr go))))), ((am 60), .inl (k 0, 4, .inl f_4)), ((am 12), .inl (k 3, 6, .inr (.inr (.inr (.inr gl))))), ((am 70), .inl (k 0, 16, .inl f_24))] H := by subst ef_24; exact hP
  have hD : va_D A [(hm, .inr (5, [.ref (am 1), .ref (am 2), .ref (am 3), .ref (am 4), .ref (am 5), .ref (am 6), .ref (am 7), .ref (am 8), .int 0, .ref (am 9), .int 0, .ref (am 10), .int 0, .ref (am 11), .ref (am 12), .int 0, .int 0, .int 1, .null, .null, .int 0, .int 0, .int 0, .long 0, .int 0, .ref (am 13), .int 0, .int 0, .int 0, .ref (am 14), .ref (am 15), .ref (am 16), .ref (am 17), .int 0, .ref (am 18), .ref (am 19), .ref (am 20)])), ((am 11), .inl (k 3, 6, .inr (.inr (.inr (.inr go))))), ((am 60), .inl (k 0, 4, .inl f_4)), ((am 12), .inl (k 3, 6, .inr (.inr (.inr (.inr gl))))), ((am 70), .inl (k 0, 16, .inl f_24))] := by subst ef_24; exact hD
  refine lv_iinc (v := 10) (lv' := [(2, .int 10), (0, .ref hm), (1, .int hv)]) hx hb dX7_newOne_70 hl (k := 0) rfl (by decide) (by decide) rfl (fun ls hl => ?_)
  refine lv_goto (tgt := 52) hx hb dX7_newOne_73 (by decide) ?_
  refine lv_iload_n hx hb dX7_newOne_52 rfl (lv_at hl 0 rfl) ?_
  refine lv_bipush (v := 16) hx hb dX7_newOne_53 (by decide) ?_
  refine lv_icmp_ge (tgt := 76) hx hb dX7_newOne_55 (by decide) (fun c_25 => absurd c_25 (by decide)) (fun c_25 => ?_)
  refine lv_aload_n hx hb dX7_newOne_58 rfl (lv_at hl 1 rfl) ?_
  refine va_get (D := D) (ci := 5) (v := .ref (am 12)) (C := RX7) (T := TX7) (N := 37) hx hb hT iw_TX7 hown hK.1 hP 0 rfl rfl 14 (by decide) (hT _ wd_944) (fun _ h9 => h9) rfl dX7_newOne_59 ?_
  refine lv_aload_n hx hb dX7_newOne_62 rfl (lv_at hl 1 rfl) ?_
  refine va_get (D := D) (ci := 5) (v := .int 0) (C := RX7) (T := TX7) (N := 37) hx hb hT iw_TX7 hown hK.1 hP 0 rfl rfl 12 (by decide) (hT _ wd_942) (fun _ h9 => h9) rfl dX7_newOne_63 ?_
  refine gx_aldA hx hb hK.1 hP 3 3 rfl rfl (gx_vin rfl) dX7_newOne_66 ?_
  refine gx_csr (v := .ref (am 70)) (congrArg va_rf (hgl 0 (by decide))) ?_
  refine lv_iload_n hx hb dX7_newOne_67 rfl (lv_at hl 0 rfl) ?_
  refine lv_iconst (v := (-1)) hx hb dX7_newOne_68 (by decide) ?_
  refine va_iast hx hb hK.1 hP hD hS 4 0 rfl rfl (gx_vin rfl) dX7_newOne_69 (fun H locs hP hD hS => ?_)
  obtain ⟨f_26, ef_26⟩ : ∃ f9, f9 = upd f_24 (10 : Int32).toNatClampNeg ((-1) : Int32) := ⟨_, rfl⟩
  have hP : va_P D gx_cl [(hm, .inr (5, [.ref (am 1), .ref (am 2), .ref (am 3), .ref (am 4), .ref (am 5), .ref (am 6), .ref (am 7), .ref (am 8), .int 0, .ref (am 9), .int 0, .ref (am 10), .int 0, .ref (am 11), .ref (am 12), .int 0, .int 0, .int 1, .null, .null, .int 0, .int 0, .int 0, .long 0, .int 0, .ref (am 13), .int 0, .int 0, .int 0, .ref (am 14), .ref (am 15), .ref (am 16), .ref (am 17), .int 0, .ref (am 18), .ref (am 19), .ref (am 20)])), ((am 11), .inl (k 3, 6, .inr (.inr (.inr (.inr go))))), ((am 60), .inl (k 0, 4, .inl f_4)), ((am 12), .inl (k 3, 6, .inr (.inr (.inr (.inr gl))))), ((am 70), .inl (k 0, 16, .inl f_26))] H := by subst ef_26; exact hP
  have hD : va_D A [(hm, .inr (5, [.ref (am 1), .ref (am 2), .ref (am 3), .ref (am 4), .ref (am 5), .ref (am 6), .ref (am 7), .ref (am 8), .int 0, .ref (am 9), .int 0, .ref (am 10), .int 0, .ref (am 11), .ref (am 12), .int 0, .int 0, .int 1, .null, .null, .int 0, .int 0, .int 0, .long 0, .int 0, .ref (am 13), .int 0, .int 0, .int 0, .ref (am 14), .ref (am 15), .ref (am 16), .ref (am 17), .int 0, .ref (am 18), .ref (am 19), .ref (am 20)])), ((am 11), .inl (k 3, 6, .inr (.inr (.inr (.inr go))))), ((am 60), .inl (k 0, 4, .inl f_4)), ((am 12), .inl (k 3, 6, .inr (.inr (.inr (.inr gl))))), ((am 70), .inl (k 0, 16, .inl f_26))] := by subst ef_26; exact hD
  refine lv_iinc (v := 11) (lv' := [(2, .int 11), (0, .ref hm), (1, .int hv)]) hx hb dX7_newOne_70 hl (k := 0) rfl (by decide) (by decide) rfl (fun ls hl => ?_)
  refine lv_goto (tgt := 52) hx hb dX7_newOne_73 (by decide) ?_
  refine lv_iload_n hx hb dX7_newOne_52 rfl (lv_at hl 0 rfl) ?_
  refine lv_bipush (v := 16) hx hb dX7_newOne_53 (by decide) ?_
  refine lv_icmp_ge (tgt := 76) hx hb dX7_newOne_55 (by decide) (fun c_27 => absurd c_27 (by decide)) (fun c_27 => ?_)
  refine lv_aload_n hx hb dX7_newOne_58 rfl (lv_at hl 1 rfl) ?_
  refine va_get (D := D) (ci := 5) (v := .ref (am 12)) (C := RX7) (T := TX7) (N := 37) hx hb hT iw_TX7 hown hK.1 hP 0 rfl rfl 14 (by decide) (hT _ wd_944) (fun _ h9 => h9) rfl dX7_newOne_59 ?_
  refine lv_aload_n hx hb dX7_newOne_62 rfl (lv_at hl 1 rfl) ?_
  refine va_get (D := D) (ci := 5) (v := .int 0) (C := RX7) (T := TX7) (N := 37) hx hb hT iw_TX7 hown hK.1 hP 0 rfl rfl 12 (by decide) (hT _ wd_942) (fun _ h9 => h9) rfl dX7_newOne_63 ?_
  refine gx_aldA hx hb hK.1 hP 3 3 rfl rfl (gx_vin rfl) dX7_newOne_66 ?_
  refine gx_csr (v := .ref (am 70)) (congrArg va_rf (hgl 0 (by decide))) ?_
  refine lv_iload_n hx hb dX7_newOne_67 rfl (lv_at hl 0 rfl) ?_
  refine lv_iconst (v := (-1)) hx hb dX7_newOne_68 (by decide) ?_
  refine va_iast hx hb hK.1 hP hD hS 4 0 rfl rfl (gx_vin rfl) dX7_newOne_69 (fun H locs hP hD hS => ?_)
  obtain ⟨f_28, ef_28⟩ : ∃ f9, f9 = upd f_26 (11 : Int32).toNatClampNeg ((-1) : Int32) := ⟨_, rfl⟩
  have hP : va_P D gx_cl [(hm, .inr (5, [.ref (am 1), .ref (am 2), .ref (am 3), .ref (am 4), .ref (am 5), .ref (am 6), .ref (am 7), .ref (am 8), .int 0, .ref (am 9), .int 0, .ref (am 10), .int 0, .ref (am 11), .ref (am 12), .int 0, .int 0, .int 1, .null, .null, .int 0, .int 0, .int 0, .long 0, .int 0, .ref (am 13), .int 0, .int 0, .int 0, .ref (am 14), .ref (am 15), .ref (am 16), .ref (am 17), .int 0, .ref (am 18), .ref (am 19), .ref (am 20)])), ((am 11), .inl (k 3, 6, .inr (.inr (.inr (.inr go))))), ((am 60), .inl (k 0, 4, .inl f_4)), ((am 12), .inl (k 3, 6, .inr (.inr (.inr (.inr gl))))), ((am 70), .inl (k 0, 16, .inl f_28))] H := by subst ef_28; exact hP
  have hD : va_D A [(hm, .inr (5, [.ref (am 1), .ref (am 2), .ref (am 3), .ref (am 4), .ref (am 5), .ref (am 6), .ref (am 7), .ref (am 8), .int 0, .ref (am 9), .int 0, .ref (am 10), .int 0, .ref (am 11), .ref (am 12), .int 0, .int 0, .int 1, .null, .null, .int 0, .int 0, .int 0, .long 0, .int 0, .ref (am 13), .int 0, .int 0, .int 0, .ref (am 14), .ref (am 15), .ref (am 16), .ref (am 17), .int 0, .ref (am 18), .ref (am 19), .ref (am 20)])), ((am 11), .inl (k 3, 6, .inr (.inr (.inr (.inr go))))), ((am 60), .inl (k 0, 4, .inl f_4)), ((am 12), .inl (k 3, 6, .inr (.inr (.inr (.inr gl))))), ((am 70), .inl (k 0, 16, .inl f_28))] := by subst ef_28; exact hD
  refine lv_iinc (v := 12) (lv' := [(2, .int 12), (0, .ref hm), (1, .int hv)]) hx hb dX7_newOne_70 hl (k := 0) rfl (by decide) (by decide) rfl (fun ls hl => ?_)
  refine lv_goto (tgt := 52) hx hb dX7_newOne_73 (by decide) ?_
  refine lv_iload_n hx hb dX7_newOne_52 rfl (lv_at hl 0 rfl) ?_
  refine lv_bipush (v := 16) hx hb dX7_newOne_53 (by decide) ?_
  refine lv_icmp_ge (tgt := 76) hx hb dX7_newOne_55 (by decide) (fun c_29 => absurd c_29 (by decide)) (fun c_29 => ?_)
  refine lv_aload_n hx hb dX7_newOne_58 rfl (lv_at hl 1 rfl) ?_
  refine va_get (D := D) (ci := 5) (v := .ref (am 12)) (C := RX7) (T := TX7) (N := 37) hx hb hT iw_TX7 hown hK.1 hP 0 rfl rfl 14 (by decide) (hT _ wd_944) (fun _ h9 => h9) rfl dX7_newOne_59 ?_
  refine lv_aload_n hx hb dX7_newOne_62 rfl (lv_at hl 1 rfl) ?_
  refine va_get (D := D) (ci := 5) (v := .int 0) (C := RX7) (T := TX7) (N := 37) hx hb hT iw_TX7 hown hK.1 hP 0 rfl rfl 12 (by decide) (hT _ wd_942) (fun _ h9 => h9) rfl dX7_newOne_63 ?_
  refine gx_aldA hx hb hK.1 hP 3 3 rfl rfl (gx_vin rfl) dX7_newOne_66 ?_
  refine gx_csr (v := .ref (am 70)) (congrArg va_rf (hgl 0 (by decide))) ?_
  refine lv_iload_n hx hb dX7_newOne_67 rfl (lv_at hl 0 rfl) ?_
  refine lv_iconst (v := (-1)) hx hb dX7_newOne_68 (by decide) ?_
  refine va_iast hx hb hK.1 hP hD hS 4 0 rfl rfl (gx_vin rfl) dX7_newOne_69 (fun H locs hP hD hS => ?_)
  obtain ⟨f_30, ef_30⟩ : ∃ f9, f9 = upd f_28 (12 : Int32).toNatClampNeg ((-1) : Int32) := ⟨_, rfl⟩
  have hP : va_P D gx_cl [(hm, .inr (5, [.ref (am 1), .ref (am 2), .ref (am 3), .ref (am 4), .ref (am 5), .ref (am 6), .ref (am 7), .ref (am 8), .int 0, .ref (am 9), .int 0, .ref (am 10), .int 0, .ref (am 11), .ref (am 12), .int 0, .int 0, .int 1, .null, .null, .int 0, .int 0, .int 0, .long 0, .int 0, .ref (am 13), .int 0, .int 0, .int 0, .ref (am 14), .ref (am 15), .ref (am 16), .ref (am 17), .int 0, .ref (am 18), .ref (am 19), .ref (am 20)])), ((am 11), .inl (k 3, 6, .inr (.inr (.inr (.inr go))))), ((am 60), .inl (k 0, 4, .inl f_4)), ((am 12), .inl (k 3, 6, .inr (.inr (.inr (.inr gl))))), ((am 70), .inl (k 0, 16, .inl f_30))] H := by subst ef_30; exact hP
  have hD : va_D A [(hm, .inr (5, [.ref (am 1), .ref (am 2), .ref (am 3), .ref (am 4), .ref (am 5), .ref (am 6), .ref (am 7), .ref (am 8), .int 0, .ref (am 9), .int 0, .ref (am 10), .int 0, .ref (am 11), .ref (am 12), .int 0, .int 0, .int 1, .null, .null, .int 0, .int 0, .int 0, .long 0, .int 0, .ref (am 13), .int 0, .int 0, .int 0, .ref (am 14), .ref (am 15), .ref (am 16), .ref (am 17), .int 0, .ref (am 18), .ref (am 19), .ref (am 20)])), ((am 11), .inl (k 3, 6, .inr (.inr (.inr (.inr go))))), ((am 60), .inl (k 0, 4, .inl f_4)), ((am 12), .inl (k 3, 6, .inr (.inr (.inr (.inr gl))))), ((am 70), .inl (k 0, 16, .inl f_30))] := by subst ef_30; exact hD
  refine lv_iinc (v := 13) (lv' := [(2, .int 13), (0, .ref hm), (1, .int hv)]) hx hb dX7_newOne_70 hl (k := 0) rfl (by decide) (by decide) rfl (fun ls hl => ?_)
  refine lv_goto (tgt := 52) hx hb dX7_newOne_73 (by decide) ?_
  refine lv_iload_n hx hb dX7_newOne_52 rfl (lv_at hl 0 rfl) ?_
  refine lv_bipush (v := 16) hx hb dX7_newOne_53 (by decide) ?_
  refine lv_icmp_ge (tgt := 76) hx hb dX7_newOne_55 (by decide) (fun c_31 => absurd c_31 (by decide)) (fun c_31 => ?_)
  refine lv_aload_n hx hb dX7_newOne_58 rfl (lv_at hl 1 rfl) ?_
  refine va_get (D := D) (ci := 5) (v := .ref (am 12)) (C := RX7) (T := TX7) (N := 37) hx hb hT iw_TX7 hown hK.1 hP 0 rfl rfl 14 (by decide) (hT _ wd_944) (fun _ h9 => h9) rfl dX7_newOne_59 ?_
  refine lv_aload_n hx hb dX7_newOne_62 rfl (lv_at hl 1 rfl) ?_
  refine va_get (D := D) (ci := 5) (v := .int 0) (C := RX7) (T := TX7) (N := 37) hx hb hT iw_TX7 hown hK.1 hP 0 rfl rfl 12 (by decide) (hT _ wd_942) (fun _ h9 => h9) rfl dX7_newOne_63 ?_
  refine gx_aldA hx hb hK.1 hP 3 3 rfl rfl (gx_vin rfl) dX7_newOne_66 ?_
  refine gx_csr (v := .ref (am 70)) (congrArg va_rf (hgl 0 (by decide))) ?_
  refine lv_iload_n hx hb dX7_newOne_67 rfl (lv_at hl 0 rfl) ?_
  refine lv_iconst (v := (-1)) hx hb dX7_newOne_68 (by decide) ?_
  refine va_iast hx hb hK.1 hP hD hS 4 0 rfl rfl (gx_vin rfl) dX7_newOne_69 (fun H locs hP hD hS => ?_)
  obtain ⟨f_32, ef_32⟩ : ∃ f9, f9 = upd f_30 (13 : Int32).toNatClampNeg ((-1) : Int32) := ⟨_, rfl⟩
  have hP : va_P D gx_cl [(hm, .inr (5, [.ref (am 1), .ref (am 2), .ref (am 3), .ref (am 4), .ref (am 5), .ref (am 6), .ref (am 7), .ref (am 8), .int 0, .ref (am 9), .int 0, .ref (am 10), .int 0, .ref (am 11), .ref (am 12), .int 0, .int 0, .int 1, .null, .null, .int 0, .int 0, .int 0, .long 0, .int 0, .ref (am 13), .int 0, .int 0, .int 0, .ref (am 14), .ref (am 15), .ref (am 16), .ref (am 17), .int 0, .ref (am 18), .ref (am 19), .ref (am 20)])), ((am 11), .inl (k 3, 6, .inr (.inr (.inr (.inr go))))), ((am 60), .inl (k 0, 4, .inl f_4)), ((am 12), .inl (k 3, 6, .inr (.inr (.inr (.inr gl))))), ((am 70), .inl (k 0, 16, .inl f_32))] H := by subst ef_32; exact hP
  have hD : va_D A [(hm, .inr (5, [.ref (am 1), .ref (am 2), .ref (am 3), .ref (am 4), .ref (am 5), .ref (am 6), .ref (am 7), .ref (am 8), .int 0, .ref (am 9), .int 0, .ref (am 10), .int 0, .ref (am 11), .ref (am 12), .int 0, .int 0, .int 1, .null, .null, .int 0, .int 0, .int 0, .long 0, .int 0, .ref (am 13), .int 0, .int 0, .int 0, .ref (am 14), .ref (am 15), .ref (am 16), .ref (am 17), .int 0, .ref (am 18), .ref (am 19), .ref (am 20)])), ((am 11), .inl (k 3, 6, .inr (.inr (.inr (.inr go))))), ((am 60), .inl (k 0, 4, .inl f_4)), ((am 12), .inl (k 3, 6, .inr (.inr (.inr (.inr gl))))), ((am 70), .inl (k 0, 16, .inl f_32))] := by subst ef_32; exact hD
  refine lv_iinc (v := 14) (lv' := [(2, .int 14), (0, .ref hm), (1, .int hv)]) hx hb dX7_newOne_70 hl (k := 0) rfl (by decide) (by decide) rfl (fun ls hl => ?_)
  refine lv_goto (tgt := 52) hx hb dX7_newOne_73 (by decide) ?_
  refine lv_iload_n hx hb dX7_newOne_52 rfl (lv_at hl 0 rfl) ?_
  refine lv_bipush (v := 16) hx hb dX7_newOne_53 (by decide) ?_
  refine lv_icmp_ge (tgt := 76) hx hb dX7_newOne_55 (by decide) (fun c_33 => absurd c_33 (by decide)) (fun c_33 => ?_)
  refine lv_aload_n hx hb dX7_newOne_58 rfl (lv_at hl 1 rfl) ?_
  refine va_get (D := D) (ci := 5) (v := .ref (am 12)) (C := RX7) (T := TX7) (N := 37) hx hb hT iw_TX7 hown hK.1 hP 0 rfl rfl 14 (by decide) (hT _ wd_944) (fun _ h9 => h9) rfl dX7_newOne_59 ?_
  refine lv_aload_n hx hb dX7_newOne_62 rfl (lv_at hl 1 rfl) ?_
  refine va_get (D := D) (ci := 5) (v := .int 0) (C := RX7) (T := TX7) (N := 37) hx hb hT iw_TX7 hown hK.1 hP 0 rfl rfl 12 (by decide) (hT _ wd_942) (fun _ h9 => h9) rfl dX7_newOne_63 ?_
  refine gx_aldA hx hb hK.1 hP 3 3 rfl rfl (gx_vin rfl) dX7_newOne_66 ?_
  refine gx_csr (v := .ref (am 70)) (congrArg va_rf (hgl 0 (by decide))) ?_
  refine lv_iload_n hx hb dX7_newOne_67 rfl (lv_at hl 0 rfl) ?_
  refine lv_iconst (v := (-1)) hx hb dX7_newOne_68 (by decide) ?_
  refine va_iast hx hb hK.1 hP hD hS 4 0 rfl rfl (gx_vin rfl) dX7_newOne_69 (fun H locs hP hD hS => ?_)
  obtain ⟨f_34, ef_34⟩ : ∃ f9, f9 = upd f_32 (14 : Int32).toNatClampNeg ((-1) : Int32) := ⟨_, rfl⟩
  have hP : va_P D gx_cl [(hm, .inr (5, [.ref (am 1), .ref (am 2), .ref (am 3), .ref (am 4), .ref (am 5), .ref (am 6), .ref (am 7), .ref (am 8), .int 0, .ref (am 9), .int 0, .ref (am 10), .int 0, .ref (am 11), .ref (am 12), .int 0, .int 0, .int 1, .null, .null, .int 0, .int 0, .int 0, .long 0, .int 0, .ref (am 13), .int 0, .int 0, .int 0, .ref (am 14), .ref (am 15), .ref (am 16), .ref (am 17), .int 0, .ref (am 18), .ref (am 19), .ref (am 20)])), ((am 11), .inl (k 3, 6, .inr (.inr (.inr (.inr go))))), ((am 60), .inl (k 0, 4, .inl f_4)), ((am 12), .inl (k 3, 6, .inr (.inr (.inr (.inr gl))))), ((am 70), .inl (k 0, 16, .inl f_34))] H := by subst ef_34; exact hP
  have hD : va_D A [(hm, .inr (5, [.ref (am 1), .ref (am 2), .ref (am 3), .ref (am 4), .ref (am 5), .ref (am 6), .ref (am 7), .ref (am 8), .int 0, .ref (am 9), .int 0, .ref (am 10), .int 0, .ref (am 11), .ref (am 12), .int 0, .int 0, .int 1, .null, .null, .int 0, .int 0, .int 0, .long 0, .int 0, .ref (am 13), .int 0, .int 0, .int 0, .ref (am 14), .ref (am 15), .ref (am 16), .ref (am 17), .int 0, .ref (am 18), .ref (am 19), .ref (am 20)])), ((am 11), .inl (k 3, 6, .inr (.inr (.inr (.inr go))))), ((am 60), .inl (k 0, 4, .inl f_4)), ((am 12), .inl (k 3, 6, .inr (.inr (.inr (.inr gl))))), ((am 70), .inl (k 0, 16, .inl f_34))] := by subst ef_34; exact hD
  refine lv_iinc (v := 15) (lv' := [(2, .int 15), (0, .ref hm), (1, .int hv)]) hx hb dX7_newOne_70 hl (k := 0) rfl (by decide) (by decide) rfl (fun ls hl => ?_)
  refine lv_goto (tgt := 52) hx hb dX7_newOne_73 (by decide) ?_
  refine lv_iload_n hx hb dX7_newOne_52 rfl (lv_at hl 0 rfl) ?_
  refine lv_bipush (v := 16) hx hb dX7_newOne_53 (by decide) ?_
  refine lv_icmp_ge (tgt := 76) hx hb dX7_newOne_55 (by decide) (fun c_35 => absurd c_35 (by decide)) (fun c_35 => ?_)
  refine lv_aload_n hx hb dX7_newOne_58 rfl (lv_at hl 1 rfl) ?_
  refine va_get (D := D) (ci := 5) (v := .ref (am 12)) (C := RX7) (T := TX7) (N := 37) hx hb hT iw_TX7 hown hK.1 hP 0 rfl rfl 14 (by decide) (hT _ wd_944) (fun _ h9 => h9) rfl dX7_newOne_59 ?_
  refine lv_aload_n hx hb dX7_newOne_62 rfl (lv_at hl 1 rfl) ?_
  refine va_get (D := D) (ci := 5) (v := .int 0) (C := RX7) (T := TX7) (N := 37) hx hb hT iw_TX7 hown hK.1 hP 0 rfl rfl 12 (by decide) (hT _ wd_942) (fun _ h9 => h9) rfl dX7_newOne_63 ?_
  refine gx_aldA hx hb hK.1 hP 3 3 rfl rfl (gx_vin rfl) dX7_newOne_66 ?_
  refine gx_csr (v := .ref (am 70)) (congrArg va_rf (hgl 0 (by decide))) ?_
  refine lv_iload_n hx hb dX7_newOne_67 rfl (lv_at hl 0 rfl) ?_
  refine lv_iconst (v := (-1)) hx hb dX7_newOne_68 (by decide) ?_
  refine va_iast hx hb hK.1 hP hD hS 4 0 rfl rfl (gx_vin rfl) dX7_newOne_69 (fun H locs hP hD hS => ?_)
  obtain ⟨f_36, ef_36⟩ : ∃ f9, f9 = upd f_34 (15 : Int32).toNatClampNeg ((-1) : Int32) := ⟨_, rfl⟩
  have hP : va_P D gx_cl [(hm, .inr (5, [.ref (am 1), .ref (am 2), .ref (am 3), .ref (am 4), .ref (am 5), .ref (am 6), .ref (am 7), .ref (am 8), .int 0, .ref (am 9), .int 0, .ref (am 10), .int 0, .ref (am 11), .ref (am 12), .int 0, .int 0, .int 1, .null, .null, .int 0, .int 0, .int 0, .long 0, .int 0, .ref (am 13), .int 0, .int 0, .int 0, .ref (am 14), .ref (am 15), .ref (am 16), .ref (am 17), .int 0, .ref (am 18), .ref (am 19), .ref (am 20)])), ((am 11), .inl (k 3, 6, .inr (.inr (.inr (.inr go))))), ((am 60), .inl (k 0, 4, .inl f_4)), ((am 12), .inl (k 3, 6, .inr (.inr (.inr (.inr gl))))), ((am 70), .inl (k 0, 16, .inl f_36))] H := by subst ef_36; exact hP
  have hD : va_D A [(hm, .inr (5, [.ref (am 1), .ref (am 2), .ref (am 3), .ref (am 4), .ref (am 5), .ref (am 6), .ref (am 7), .ref (am 8), .int 0, .ref (am 9), .int 0, .ref (am 10), .int 0, .ref (am 11), .ref (am 12), .int 0, .int 0, .int 1, .null, .null, .int 0, .int 0, .int 0, .long 0, .int 0, .ref (am 13), .int 0, .int 0, .int 0, .ref (am 14), .ref (am 15), .ref (am 16), .ref (am 17), .int 0, .ref (am 18), .ref (am 19), .ref (am 20)])), ((am 11), .inl (k 3, 6, .inr (.inr (.inr (.inr go))))), ((am 60), .inl (k 0, 4, .inl f_4)), ((am 12), .inl (k 3, 6, .inr (.inr (.inr (.inr gl))))), ((am 70), .inl (k 0, 16, .inl f_36))] := by subst ef_36; exact hD
  refine lv_iinc (v := 16) (lv' := [(2, .int 16), (0, .ref hm), (1, .int hv)]) hx hb dX7_newOne_70 hl (k := 0) rfl (by decide) (by decide) rfl (fun ls hl => ?_)
  refine lv_goto (tgt := 52) hx hb dX7_newOne_73 (by decide) ?_
  refine lv_iload_n hx hb dX7_newOne_52 rfl (lv_at hl 0 rfl) ?_
  refine lv_bipush (v := 16) hx hb dX7_newOne_53 (by decide) ?_
  refine lv_icmp_ge (tgt := 76) hx hb dX7_newOne_55 (by decide) (fun c_37 => ?_) (fun c_37 => absurd (by decide) c_37)
  refine lv_aload_n hx hb dX7_newOne_76 rfl (lv_at hl 1 rfl) ?_
  refine lv_dup hx hb dX7_newOne_77 rfl ?_
  refine va_get (D := D) (ci := 5) (v := .int 0) (C := RX7) (T := TX7) (N := 37) hx hb hT iw_TX7 hown hK.1 hP 0 rfl rfl 12 (by decide) (hT _ wd_942) (fun _ h9 => h9) rfl dX7_newOne_78 ?_
  refine lv_iconst (v := 1) hx hb dX7_newOne_81 (by decide) ?_
  refine lv_iadd hx hb dX7_newOne_82 ?_
  refine gx_cst (v := 1) (by decide) ?_
  refine va_put (D := D) (ci := 5) (v := .int 1) (ty := .int) (C := RX7) (T := TX7) (N := 37) hx hb hT iw_TX7 tyX7 tyX7_ok nmX7 hown hK.1 hP hD hS 0 rfl rfl 12 (by decide) (hT _ wd_942) (fun _ h9 => h9) rfl (by decide +kernel) rfl rfl (Nat.le_of_ble_eq_true rfl) dX7_newOne_83 (fun H locs hP hD hS => ?_)
  have hP : va_P D gx_cl [(hm, .inr (5, [.ref (am 1), .ref (am 2), .ref (am 3), .ref (am 4), .ref (am 5), .ref (am 6), .ref (am 7), .ref (am 8), .int 0, .ref (am 9), .int 0, .ref (am 10), .int 1, .ref (am 11), .ref (am 12), .int 0, .int 0, .int 1, .null, .null, .int 0, .int 0, .int 0, .long 0, .int 0, .ref (am 13), .int 0, .int 0, .int 0, .ref (am 14), .ref (am 15), .ref (am 16), .ref (am 17), .int 0, .ref (am 18), .ref (am 19), .ref (am 20)])), ((am 11), .inl (k 3, 6, .inr (.inr (.inr (.inr go))))), ((am 60), .inl (k 0, 4, .inl f_4)), ((am 12), .inl (k 3, 6, .inr (.inr (.inr (.inr gl))))), ((am 70), .inl (k 0, 16, .inl f_36))] H := hP
  have hD : va_D A [(hm, .inr (5, [.ref (am 1), .ref (am 2), .ref (am 3), .ref (am 4), .ref (am 5), .ref (am 6), .ref (am 7), .ref (am 8), .int 0, .ref (am 9), .int 0, .ref (am 10), .int 1, .ref (am 11), .ref (am 12), .int 0, .int 0, .int 1, .null, .null, .int 0, .int 0, .int 0, .long 0, .int 0, .ref (am 13), .int 0, .int 0, .int 0, .ref (am 14), .ref (am 15), .ref (am 16), .ref (am 17), .int 0, .ref (am 18), .ref (am 19), .ref (am 20)])), ((am 11), .inl (k 3, 6, .inr (.inr (.inr (.inr go))))), ((am 60), .inl (k 0, 4, .inl f_4)), ((am 12), .inl (k 3, 6, .inr (.inr (.inr (.inr gl))))), ((am 70), .inl (k 0, 16, .inl f_36))] := hD
  have hP9 := gx_subP (wc := ([(hm, .inr (5, [.ref (am 1), .ref (am 2), .ref (am 3), .ref (am 4), .ref (am 5), .ref (am 6), .ref (am 7), .ref (am 8), .int 0, .ref (am 9), .int 0, .ref (am 10), .int 1, .ref (am 11), .ref (am 12), .int 0, .int 0, .int 1, .null, .null, .int 0, .int 0, .int 0, .long 0, .int 0, .ref (am 13), .int 0, .int 0, .int 0, .ref (am 14), .ref (am 15), .ref (am 16), .ref (am 17), .int 0, .ref (am 18), .ref (am 19), .ref (am 20)]))] : va_W)) hP [0] rfl
  have hD9 := hD.sub (ws' := ([(hm, .inr (5, [.ref (am 1), .ref (am 2), .ref (am 3), .ref (am 4), .ref (am 5), .ref (am 6), .ref (am 7), .ref (am 8), .int 0, .ref (am 9), .int 0, .ref (am 10), .int 1, .ref (am 11), .ref (am 12), .int 0, .int 0, .int 1, .null, .null, .int 0, .int 0, .int 0, .long 0, .int 0, .ref (am 13), .int 0, .int 0, .int 0, .ref (am 14), .ref (am 15), .ref (am 16), .ref (am 17), .int 0, .ref (am 18), .ref (am 19), .ref (am 20)]))] : va_W)) [0] (by decide) rfl
  exact gx_retV C (u := ()) hP9 hD9 hS (trivial) dX7_newOne_86
set_option maxHeartbeats 4000000 in
set_option maxRecDepth 100000 in
theorem m_road_pub (l : Launch) (D : va_G) (k : Nat → ClassId) (hm : Nat) (am : Nat → Nat) (gd : Nat → Option Nat) (gl : Nat → Option Nat) (fv : Int32) (tv : Int32) (mv : Int32) (zv : Int32) (hgd : ∀ i, i < 16 → gd i = some (am (40 + i))) (hgl : ∀ i, i < 6 → gl i = some (am (70 + i))) (sz : Nat) : Met l yX7_road (.code yX7_road cX7_road 5 (some .int) :: gx_T) ({ frames := 2, cells := 0, slots := 0, locals := 46 }) (gx_Pre D k [.ref hm, .int fv, .int tv, .int mv, .int zv] ([(hm, .inr (5, [.ref (am 1), .ref (am 2), .ref (am 3), .ref (am 4), .ref (am 5), .ref (am 6), .ref (am 7), .ref (am 8), .int 0, .ref (am 9), .int 0, .ref (am 10), .int 0, .ref (am 11), .ref (am 12), .int 0, .int 0, .int 1, .null, .null, .int 0, .int 0, .int 0, .long 0, .int 0, .ref (am 13), .int 0, .int 0, .int 0, .ref (am 14), .ref (am 15), .ref (am 16), .ref (am 17), .int 0, .ref (am 18), .ref (am 19), .ref (am 20)])), ((am 9), .inl (k 0, 8, .inl (fun _ => 0))), ((am 10), .inl (k 3, 16, .inr (.inr (.inr (.inr gd))))), ((am 40), .inl (k 0, 5, .inl (gx_zz 0))), ((am 12), .inl (k 3, 6, .inr (.inr (.inr (.inr gl))))), ((am 70), .inl (k 0, 16, .inl (gx_zz 0))), ((am 71), .inl (k 0, 16, .inl (gx_zz 1))), ((am 72), .inl (k 0, 16, .inl (gx_zz 2))), ((am 73), .inl (k 0, 16, .inl (gx_zz 3))), ((am 74), .inl (k 0, 16, .inl (gx_zz 4))), ((am 75), .inl (k 0, 16, .inl (gx_zz 5)))]) sz) (gx_Qi D (fun (r : Int32) (u : Unit) => r = (gs_road fv tv mv)) (fun (u : Unit) => ([] : va_W)) (va_A ([(hm, .inr (5, [.ref (am 1), .ref (am 2), .ref (am 3), .ref (am 4), .ref (am 5), .ref (am 6), .ref (am 7), .ref (am 8), .int 0, .ref (am 9), .int 0, .ref (am 10), .int 0, .ref (am 11), .ref (am 12), .int 0, .int 0, .int 1, .null, .null, .int 0, .int 0, .int 0, .long 0, .int 0, .ref (am 13), .int 0, .int 0, .int 0, .ref (am 14), .ref (am 15), .ref (am 16), .ref (am 17), .int 0, .ref (am 18), .ref (am 19), .ref (am 20)])), ((am 9), .inl (k 0, 8, .inl (fun _ => 0))), ((am 10), .inl (k 3, 16, .inr (.inr (.inr (.inr gd))))), ((am 40), .inl (k 0, 5, .inl (gx_zz 0))), ((am 12), .inl (k 3, 6, .inr (.inr (.inr (.inr gl))))), ((am 70), .inl (k 0, 16, .inl (gx_zz 0))), ((am 71), .inl (k 0, 16, .inl (gx_zz 1))), ((am 72), .inl (k 0, 16, .inl (gx_zz 2))), ((am 73), .inl (k 0, 16, .inl (gx_zz 3))), ((am 74), .inl (k 0, 16, .inl (gx_zz 4))), ((am 75), .inl (k 0, 16, .inl (gx_zz 5)))]) sz)) 0 0 (va_A ([(hm, .inr (5, [.ref (am 1), .ref (am 2), .ref (am 3), .ref (am 4), .ref (am 5), .ref (am 6), .ref (am 7), .ref (am 8), .int 0, .ref (am 9), .int 0, .ref (am 10), .int 0, .ref (am 11), .ref (am 12), .int 0, .int 0, .int 1, .null, .null, .int 0, .int 0, .int 0, .long 0, .int 0, .ref (am 13), .int 0, .int 0, .int 0, .ref (am 14), .ref (am 15), .ref (am 16), .ref (am 17), .int 0, .ref (am 18), .ref (am 19), .ref (am 20)])), ((am 9), .inl (k 0, 8, .inl (fun _ => 0))), ((am 10), .inl (k 3, 16, .inr (.inr (.inr (.inr gd))))), ((am 40), .inl (k 0, 5, .inl (gx_zz 0))), ((am 12), .inl (k 3, 6, .inr (.inr (.inr (.inr gl))))), ((am 70), .inl (k 0, 16, .inl (gx_zz 0))), ((am 71), .inl (k 0, 16, .inl (gx_zz 1))), ((am 72), .inl (k 0, 16, .inl (gx_zz 2))), ((am 73), .inl (k 0, 16, .inl (gx_zz 3))), ((am 74), .inl (k 0, 16, .inl (gx_zz 4))), ((am 75), .inl (k 0, 16, .inl (gx_zz 5)))]) sz) := by
  refine gx_metE (Qc := fun A => gx_Qi D (fun (r : Int32) (u : Unit) => r = (gs_road fv tv mv)) (fun (u : Unit) => ([] : va_W)) A) (y := yX7_road) (cc := cX7_road) (n := 5) (ret := (some .int)) (av := [.ref hm, .int fv, .int tv, .int mv, .int zv]) (by decide) (Nat.le_of_ble_eq_true rfl) ?_
  intro p e s m below meth c A ls C hA hP hD hK hS hl
  obtain ⟨hx, hb, hr, hml, hown, hT, hlk, hin⟩ := id C
  have hown : s.vm.findClass RX7 = some m.cls := hown
  have hl : lv_has ls 5 [(0, .ref hm), (1, .int fv), (2, .int tv), (3, .int mv), (4, .int zv)] := hl
  refine lv_iload_n hx hb dX7_road_0 rfl (lv_at hl 1 rfl) ?_
  refine lv_i2l (v := (fv).toInt64) hx hb dX7_road_1 (rfl) ?_
  refine gx_pi hP hS (gx_runS (na := 1) (As := [.long ((fv).toInt64)]) (rest := []) C hl.1 hK (gx_subP (wc := ([] : va_W)) hP [] rfl) ((hD.sub (ws' := ([] : va_W)) [] (by decide) rfl).weaken (fun _ _ _ _ => trivial)) (m_isPlace l D k fv _) gS_RX7_118 (by decide +kernel) rfl rfl ⟨Nat.le_of_ble_eq_true rfl, Nat.le_of_ble_eq_true rfl⟩ rfl rfl (Nat.le_of_ble_eq_true rfl) dX7_road_2 ⟨Nat.le_of_ble_eq_true rfl, Nat.le_of_ble_eq_true rfl⟩) (fun r_2 H locs pc_1 hP hS => ?_)
  have oc_1 : r_2 = 1 ∧ gx_b fv 0 7 = true ∨ r_2 = 0 ∧ gx_b fv 0 7 = false := pc_1
  clear pc_1
  rcases oc_1 with ⟨rfl, c_1⟩ | ⟨rfl, c_1⟩
  · refine lv_if_eq (tgt := 33) hx hb dX7_road_5 (by decide) (fun c_3 => absurd c_3 (by decide)) (fun c_3 => ?_)
    refine lv_iload_n hx hb dX7_road_8 rfl (lv_at hl 2 rfl) ?_
    refine lv_i2l (v := (tv).toInt64) hx hb dX7_road_9 (rfl) ?_
    refine gx_pi hP hS (gx_runS (na := 1) (As := [.long ((tv).toInt64)]) (rest := []) C hl.1 hK (gx_subP (wc := ([] : va_W)) hP [] rfl) ((hD.sub (ws' := ([] : va_W)) [] (by decide) rfl).weaken (fun _ _ _ _ => trivial)) (m_isPlace l D k tv _) gS_RX7_118 (by decide +kernel) rfl rfl ⟨Nat.le_of_ble_eq_true rfl, Nat.le_of_ble_eq_true rfl⟩ rfl rfl (Nat.le_of_ble_eq_true rfl) dX7_road_10 ⟨Nat.le_of_ble_eq_true rfl, Nat.le_of_ble_eq_true rfl⟩) (fun r_5 H locs pc_4 hP hS => ?_)
    have oc_4 : r_5 = 1 ∧ gx_b tv 0 7 = true ∨ r_5 = 0 ∧ gx_b tv 0 7 = false := pc_4
    clear pc_4
    rcases oc_4 with ⟨rfl, c_4⟩ | ⟨rfl, c_4⟩
    · refine lv_if_eq (tgt := 33) hx hb dX7_road_13 (by decide) (fun c_6 => absurd c_6 (by decide)) (fun c_6 => ?_)
      refine lv_iload_n hx hb dX7_road_16 rfl (lv_at hl 1 rfl) ?_
      refine lv_iload_n hx hb dX7_road_17 rfl (lv_at hl 2 rfl) ?_
      refine lv_icmp_eq (tgt := 33) hx hb dX7_road_18 (by decide) (fun c_7 => ?_) (fun c_7 => ?_)
      · refine lv_aload_n hx hb dX7_road_33 rfl (lv_at hl 0 rfl) ?_
        refine lv_bipush (v := (-2)) hx hb dX7_road_34 (by decide) ?_
        refine gx_ei (wc := ([(hm, .inr (5, [.ref (am 1), .ref (am 2), .ref (am 3), .ref (am 4), .ref (am 5), .ref (am 6), .ref (am 7), .ref (am 8), .int 0, .ref (am 9), .int 0, .ref (am 10), .int 0, .ref (am 11), .ref (am 12), .int 0, .int 0, .int 1, .null, .null, .int 0, .int 0, .int 0, .long 0, .int 0, .ref (am 13), .int 0, .int 0, .int 0, .ref (am 14), .ref (am 15), .ref (am 16), .ref (am 17), .int 0, .ref (am 18), .ref (am 19), .ref (am 20)])), ((am 9), .inl (k 0, 8, .inl (fun _ => 0)))] : va_W)) (wr := [((am 10), .inl (k 3, 16, .inr (.inr (.inr (.inr gd))))), ((am 40), .inl (k 0, 5, .inl (gx_zz 0))), ((am 12), .inl (k 3, 6, .inr (.inr (.inr (.inr gl))))), ((am 70), .inl (k 0, 16, .inl (gx_zz 0))), ((am 71), .inl (k 0, 16, .inl (gx_zz 1))), ((am 72), .inl (k 0, 16, .inl (gx_zz 2))), ((am 73), .inl (k 0, 16, .inl (gx_zz 3))), ((am 74), .inl (k 0, 16, .inl (gx_zz 4))), ((am 75), .inl (k 0, 16, .inl (gx_zz 5)))]) (isC := [0, 1]) (isR := [2, 3, 4, 5, 6, 7, 8, 9, 10]) hP hD hS hA rfl rfl (by decide) (by decide) (gx_runV (na := 1) (As := [.int (-2)]) (rest := []) (ci := 5) C hl.1 hK (gx_subP (wc := ([(hm, .inr (5, [.ref (am 1), .ref (am 2), .ref (am 3), .ref (am 4), .ref (am 5), .ref (am 6), .ref (am 7), .ref (am 8), .int 0, .ref (am 9), .int 0, .ref (am 10), .int 0, .ref (am 11), .ref (am 12), .int 0, .int 0, .int 1, .null, .null, .int 0, .int 0, .int 0, .long 0, .int 0, .ref (am 13), .int 0, .int 0, .int 0, .ref (am 14), .ref (am 15), .ref (am 16), .ref (am 17), .int 0, .ref (am 18), .ref (am 19), .ref (am 20)])), ((am 9), .inl (k 0, 8, .inl (fun _ => 0)))] : va_W)) hP [0, 1] rfl) ((hD.sub (ws' := ([(hm, .inr (5, [.ref (am 1), .ref (am 2), .ref (am 3), .ref (am 4), .ref (am 5), .ref (am 6), .ref (am 7), .ref (am 8), .int 0, .ref (am 9), .int 0, .ref (am 10), .int 0, .ref (am 11), .ref (am 12), .int 0, .int 0, .int 1, .null, .null, .int 0, .int 0, .int 0, .long 0, .int 0, .ref (am 13), .int 0, .int 0, .int 0, .ref (am 14), .ref (am 15), .ref (am 16), .ref (am 17), .int 0, .ref (am 18), .ref (am 19), .ref (am 20)])), ((am 9), .inl (k 0, 8, .inl (fun _ => 0)))] : va_W)) [0, 1] (by decide) rfl).weaken (fun _ _ _ _ => trivial)) (m_refuse2 l D k hm am .null .null 0 _) gV_RX7_95 (by decide +kernel) rfl rfl ⟨Nat.le_of_ble_eq_true rfl, Nat.le_of_ble_eq_true rfl⟩ rfl rfl rfl rfl (Nat.le_of_ble_eq_true rfl) dX7_road_36 ⟨Nat.le_of_ble_eq_true rfl, Nat.le_of_ble_eq_true rfl⟩) (fun r_10 u_8 H locs h_9 hP hD hS => ?_)
        have h_9 : r_10 = -2 := h_9
        have hP : va_P D gx_cl [((am 10), .inl (k 3, 16, .inr (.inr (.inr (.inr gd))))), ((am 40), .inl (k 0, 5, .inl (gx_zz 0))), ((am 12), .inl (k 3, 6, .inr (.inr (.inr (.inr gl))))), ((am 70), .inl (k 0, 16, .inl (gx_zz 0))), ((am 71), .inl (k 0, 16, .inl (gx_zz 1))), ((am 72), .inl (k 0, 16, .inl (gx_zz 2))), ((am 73), .inl (k 0, 16, .inl (gx_zz 3))), ((am 74), .inl (k 0, 16, .inl (gx_zz 4))), ((am 75), .inl (k 0, 16, .inl (gx_zz 5)))] H := hP
        have hD : va_D A [((am 10), .inl (k 3, 16, .inr (.inr (.inr (.inr gd))))), ((am 40), .inl (k 0, 5, .inl (gx_zz 0))), ((am 12), .inl (k 3, 6, .inr (.inr (.inr (.inr gl))))), ((am 70), .inl (k 0, 16, .inl (gx_zz 0))), ((am 71), .inl (k 0, 16, .inl (gx_zz 1))), ((am 72), .inl (k 0, 16, .inl (gx_zz 2))), ((am 73), .inl (k 0, 16, .inl (gx_zz 3))), ((am 74), .inl (k 0, 16, .inl (gx_zz 4))), ((am 75), .inl (k 0, 16, .inl (gx_zz 5)))] := hD
        have eh_9 := h_9
        subst eh_9
        exact gx_retI C (u := ()) gx_nil gx_noneD hS (by simp [gs_road, c_1, c_4, c_7]) dX7_road_39
      · refine lv_iload_n hx hb dX7_road_21 rfl (lv_at hl 3 rfl) ?_
        refine lv_i2l (v := (mv).toInt64) hx hb dX7_road_22 (rfl) ?_
        refine lv_lconst (v := 1) hx hb dX7_road_23 (by decide) ?_
        refine lv_ldc2 (v := 60) hx hb hown (hT _ wd_1138) dX7_road_24 ?_
        refine gx_pi hP hS (gx_runS (na := 3) (As := [.long ((mv).toInt64), .long 1, .long 60]) (rest := []) C hl.1 hK (gx_subP (wc := ([] : va_W)) hP [] rfl) ((hD.sub (ws' := ([] : va_W)) [] (by decide) rfl).weaken (fun _ _ _ _ => trivial)) (m_in l D k mv 1 60 1 60 (by decide) (by decide) _) gS_RX7_82 (by decide +kernel) rfl rfl ⟨Nat.le_of_ble_eq_true rfl, Nat.le_of_ble_eq_true rfl⟩ rfl rfl (Nat.le_of_ble_eq_true rfl) dX7_road_27 ⟨Nat.le_of_ble_eq_true rfl, Nat.le_of_ble_eq_true rfl⟩) (fun r_13 H locs pc_12 hP hS => ?_)
        have oc_12 : r_13 = 1 ∧ gx_b mv 1 60 = true ∨ r_13 = 0 ∧ gx_b mv 1 60 = false := pc_12
        clear pc_12
        rcases oc_12 with ⟨rfl, c_12⟩ | ⟨rfl, c_12⟩
        · refine lv_if_ne (tgt := 40) hx hb dX7_road_30 (by decide) (fun c_14 => ?_) (fun c_14 => absurd c_14 (by decide))
          refine lv_aload_n hx hb dX7_road_40 rfl (lv_at hl 0 rfl) ?_
          refine va_get (D := D) (ci := 5) (v := .int 0) (C := RX7) (T := TX7) (N := 37) hx hb hT iw_TX7 hown hK.1 hP 0 rfl rfl 10 (by decide) (hT _ wd_940) (fun _ h9 => h9) rfl dX7_road_41 ?_
          refine lv_bipush (v := 16) hx hb dX7_road_44 (by decide) ?_
          refine lv_icmp_ne (tgt := 56) hx hb dX7_road_46 (by decide) (fun c_15 => ?_) (fun c_15 => absurd c_15 (by decide))
          refine lv_aload_n hx hb dX7_road_56 rfl (lv_at hl 0 rfl) ?_
          refine gx_ev (wc := ([(hm, .inr (5, [.ref (am 1), .ref (am 2), .ref (am 3), .ref (am 4), .ref (am 5), .ref (am 6), .ref (am 7), .ref (am 8), .int 0, .ref (am 9), .int 0, .ref (am 10), .int 0, .ref (am 11), .ref (am 12), .int 0, .int 0, .int 1, .null, .null, .int 0, .int 0, .int 0, .long 0, .int 0, .ref (am 13), .int 0, .int 0, .int 0, .ref (am 14), .ref (am 15), .ref (am 16), .ref (am 17), .int 0, .ref (am 18), .ref (am 19), .ref (am 20)])), ((am 10), .inl (k 3, 16, .inr (.inr (.inr (.inr gd))))), ((am 40), .inl (k 0, 5, .inl (gx_zz 0))), ((am 12), .inl (k 3, 6, .inr (.inr (.inr (.inr gl))))), ((am 70), .inl (k 0, 16, .inl (gx_zz 0))), ((am 71), .inl (k 0, 16, .inl (gx_zz 1))), ((am 72), .inl (k 0, 16, .inl (gx_zz 2))), ((am 73), .inl (k 0, 16, .inl (gx_zz 3))), ((am 74), .inl (k 0, 16, .inl (gx_zz 4))), ((am 75), .inl (k 0, 16, .inl (gx_zz 5)))] : va_W)) (wr := [((am 9), .inl (k 0, 8, .inl (fun _ => 0)))]) (isC := [0, 2, 3, 4, 5, 6, 7, 8, 9, 10]) (isR := [1]) hP hD hS hA rfl rfl (by decide) (by decide) (gx_runV (na := 0) (As := []) (rest := []) (ci := 5) C hl.1 hK (gx_subP (wc := ([(hm, .inr (5, [.ref (am 1), .ref (am 2), .ref (am 3), .ref (am 4), .ref (am 5), .ref (am 6), .ref (am 7), .ref (am 8), .int 0, .ref (am 9), .int 0, .ref (am 10), .int 0, .ref (am 11), .ref (am 12), .int 0, .int 0, .int 1, .null, .null, .int 0, .int 0, .int 0, .long 0, .int 0, .ref (am 13), .int 0, .int 0, .int 0, .ref (am 14), .ref (am 15), .ref (am 16), .ref (am 17), .int 0, .ref (am 18), .ref (am 19), .ref (am 20)])), ((am 10), .inl (k 3, 16, .inr (.inr (.inr (.inr gd))))), ((am 40), .inl (k 0, 5, .inl (gx_zz 0))), ((am 12), .inl (k 3, 6, .inr (.inr (.inr (.inr gl))))), ((am 70), .inl (k 0, 16, .inl (gx_zz 0))), ((am 71), .inl (k 0, 16, .inl (gx_zz 1))), ((am 72), .inl (k 0, 16, .inl (gx_zz 2))), ((am 73), .inl (k 0, 16, .inl (gx_zz 3))), ((am 74), .inl (k 0, 16, .inl (gx_zz 4))), ((am 75), .inl (k 0, 16, .inl (gx_zz 5)))] : va_W)) hP [0, 2, 3, 4, 5, 6, 7, 8, 9, 10] rfl) ((hD.sub (ws' := ([(hm, .inr (5, [.ref (am 1), .ref (am 2), .ref (am 3), .ref (am 4), .ref (am 5), .ref (am 6), .ref (am 7), .ref (am 8), .int 0, .ref (am 9), .int 0, .ref (am 10), .int 0, .ref (am 11), .ref (am 12), .int 0, .int 0, .int 1, .null, .null, .int 0, .int 0, .int 0, .long 0, .int 0, .ref (am 13), .int 0, .int 0, .int 0, .ref (am 14), .ref (am 15), .ref (am 16), .ref (am 17), .int 0, .ref (am 18), .ref (am 19), .ref (am 20)])), ((am 10), .inl (k 3, 16, .inr (.inr (.inr (.inr gd))))), ((am 40), .inl (k 0, 5, .inl (gx_zz 0))), ((am 12), .inl (k 3, 6, .inr (.inr (.inr (.inr gl))))), ((am 70), .inl (k 0, 16, .inl (gx_zz 0))), ((am 71), .inl (k 0, 16, .inl (gx_zz 1))), ((am 72), .inl (k 0, 16, .inl (gx_zz 2))), ((am 73), .inl (k 0, 16, .inl (gx_zz 3))), ((am 74), .inl (k 0, 16, .inl (gx_zz 4))), ((am 75), .inl (k 0, 16, .inl (gx_zz 5)))] : va_W)) [0, 2, 3, 4, 5, 6, 7, 8, 9, 10] (by decide) rfl).weaken (fun _ _ _ _ => trivial)) (m_newRoad l D k hm am gd gl hgd hgl _) gV_RX7_124 (by decide +kernel) rfl rfl ⟨Nat.le_of_ble_eq_true rfl, Nat.le_of_ble_eq_true rfl⟩ rfl rfl rfl rfl (Nat.le_of_ble_eq_true rfl) dX7_road_57 ⟨Nat.le_of_ble_eq_true rfl, Nat.le_of_ble_eq_true rfl⟩) (fun u_17 H locs h_18 hP hD hS => ?_)
          obtain ⟨g_16, rfl⟩ : ∃ z, z = u_17 := ⟨_, rfl⟩
          have hP : va_P D gx_cl [((am 9), .inl (k 0, 8, .inl (fun _ => 0))), (hm, .inr (5, [.ref (am 1), .ref (am 2), .ref (am 3), .ref (am 4), .ref (am 5), .ref (am 6), .ref (am 7), .ref (am 8), .int 0, .ref (am 9), .int 0, .ref (am 10), .int 0, .ref (am 11), .ref (am 12), .int 0, .int 0, .int 1, .null, .null, .int 0, .int 0, .int 0, .long 0, .int 0, .ref (am 13), .int 0, .int 0, .int 0, .ref (am 14), .ref (am 15), .ref (am 16), .ref (am 17), .int 0, .ref (am 18), .ref (am 19), .ref (am 20)])), ((am 10), .inl (k 3, 16, .inr (.inr (.inr (.inr gd))))), ((am 40), .inl (k 0, 5, .inl g_16))] H := hP
          have hD : va_D A [((am 9), .inl (k 0, 8, .inl (fun _ => 0))), (hm, .inr (5, [.ref (am 1), .ref (am 2), .ref (am 3), .ref (am 4), .ref (am 5), .ref (am 6), .ref (am 7), .ref (am 8), .int 0, .ref (am 9), .int 0, .ref (am 10), .int 0, .ref (am 11), .ref (am 12), .int 0, .int 0, .int 1, .null, .null, .int 0, .int 0, .int 0, .long 0, .int 0, .ref (am 13), .int 0, .int 0, .int 0, .ref (am 14), .ref (am 15), .ref (am 16), .ref (am 17), .int 0, .ref (am 18), .ref (am 19), .ref (am 20)])), ((am 10), .inl (k 3, 16, .inr (.inr (.inr (.inr gd))))), ((am 40), .inl (k 0, 5, .inl g_16))] := hD
          refine lv_aload_n hx hb dX7_road_60 rfl (lv_at hl 0 rfl) ?_
          refine va_get (D := D) (ci := 5) (v := .ref (am 10)) (C := RX7) (T := TX7) (N := 37) hx hb hT iw_TX7 hown hK.1 hP 1 rfl rfl 11 (by decide) (hT _ wd_941) (fun _ h9 => h9) rfl dX7_road_61 ?_
          refine lv_aload_n hx hb dX7_road_64 rfl (lv_at hl 0 rfl) ?_
          refine va_get (D := D) (ci := 5) (v := .int 0) (C := RX7) (T := TX7) (N := 37) hx hb hT iw_TX7 hown hK.1 hP 1 rfl rfl 10 (by decide) (hT _ wd_940) (fun _ h9 => h9) rfl dX7_road_65 ?_
          refine gx_aldA hx hb hK.1 hP 2 3 rfl rfl (gx_vin rfl) dX7_road_68 ?_
          refine gx_csr (v := .ref (am 40)) (congrArg va_rf (hgd 0 (by decide))) ?_
          refine lv_iconst (v := 0) hx hb dX7_road_69 (by decide) ?_
          refine lv_iload_n hx hb dX7_road_70 rfl (lv_at hl 1 rfl) ?_
          refine va_iast hx hb hK.1 hP hD hS 3 0 rfl rfl (gx_vin rfl) dX7_road_71 (fun H locs hP hD hS => ?_)
          obtain ⟨f_21, ef_21⟩ : ∃ f9, f9 = upd g_16 (0 : Int32).toNatClampNeg (fv : Int32) := ⟨_, rfl⟩
          have hP : va_P D gx_cl [((am 9), .inl (k 0, 8, .inl (fun _ => 0))), (hm, .inr (5, [.ref (am 1), .ref (am 2), .ref (am 3), .ref (am 4), .ref (am 5), .ref (am 6), .ref (am 7), .ref (am 8), .int 0, .ref (am 9), .int 0, .ref (am 10), .int 0, .ref (am 11), .ref (am 12), .int 0, .int 0, .int 1, .null, .null, .int 0, .int 0, .int 0, .long 0, .int 0, .ref (am 13), .int 0, .int 0, .int 0, .ref (am 14), .ref (am 15), .ref (am 16), .ref (am 17), .int 0, .ref (am 18), .ref (am 19), .ref (am 20)])), ((am 10), .inl (k 3, 16, .inr (.inr (.inr (.inr gd))))), ((am 40), .inl (k 0, 5, .inl f_21))] H := by subst ef_21; exact hP
          have hD : va_D A [((am 9), .inl (k 0, 8, .inl (fun _ => 0))), (hm, .inr (5, [.ref (am 1), .ref (am 2), .ref (am 3), .ref (am 4), .ref (am 5), .ref (am 6), .ref (am 7), .ref (am 8), .int 0, .ref (am 9), .int 0, .ref (am 10), .int 0, .ref (am 11), .ref (am 12), .int 0, .int 0, .int 1, .null, .null, .int 0, .int 0, .int 0, .long 0, .int 0, .ref (am 13), .int 0, .int 0, .int 0, .ref (am 14), .ref (am 15), .ref (am 16), .ref (am 17), .int 0, .ref (am 18), .ref (am 19), .ref (am 20)])), ((am 10), .inl (k 3, 16, .inr (.inr (.inr (.inr gd))))), ((am 40), .inl (k 0, 5, .inl f_21))] := by subst ef_21; exact hD
          refine lv_aload_n hx hb dX7_road_72 rfl (lv_at hl 0 rfl) ?_
          refine va_get (D := D) (ci := 5) (v := .ref (am 10)) (C := RX7) (T := TX7) (N := 37) hx hb hT iw_TX7 hown hK.1 hP 1 rfl rfl 11 (by decide) (hT _ wd_941) (fun _ h9 => h9) rfl dX7_road_73 ?_
          refine lv_aload_n hx hb dX7_road_76 rfl (lv_at hl 0 rfl) ?_
          refine va_get (D := D) (ci := 5) (v := .int 0) (C := RX7) (T := TX7) (N := 37) hx hb hT iw_TX7 hown hK.1 hP 1 rfl rfl 10 (by decide) (hT _ wd_940) (fun _ h9 => h9) rfl dX7_road_77 ?_
          refine gx_aldA hx hb hK.1 hP 2 3 rfl rfl (gx_vin rfl) dX7_road_80 ?_
          refine gx_csr (v := .ref (am 40)) (congrArg va_rf (hgd 0 (by decide))) ?_
          refine lv_iconst (v := 1) hx hb dX7_road_81 (by decide) ?_
          refine lv_iload_n hx hb dX7_road_82 rfl (lv_at hl 2 rfl) ?_
          refine va_iast hx hb hK.1 hP hD hS 3 0 rfl rfl (gx_vin rfl) dX7_road_83 (fun H locs hP hD hS => ?_)
          obtain ⟨f_22, ef_22⟩ : ∃ f9, f9 = upd f_21 (1 : Int32).toNatClampNeg (tv : Int32) := ⟨_, rfl⟩
          have hP : va_P D gx_cl [((am 9), .inl (k 0, 8, .inl (fun _ => 0))), (hm, .inr (5, [.ref (am 1), .ref (am 2), .ref (am 3), .ref (am 4), .ref (am 5), .ref (am 6), .ref (am 7), .ref (am 8), .int 0, .ref (am 9), .int 0, .ref (am 10), .int 0, .ref (am 11), .ref (am 12), .int 0, .int 0, .int 1, .null, .null, .int 0, .int 0, .int 0, .long 0, .int 0, .ref (am 13), .int 0, .int 0, .int 0, .ref (am 14), .ref (am 15), .ref (am 16), .ref (am 17), .int 0, .ref (am 18), .ref (am 19), .ref (am 20)])), ((am 10), .inl (k 3, 16, .inr (.inr (.inr (.inr gd))))), ((am 40), .inl (k 0, 5, .inl f_22))] H := by subst ef_22; exact hP
          have hD : va_D A [((am 9), .inl (k 0, 8, .inl (fun _ => 0))), (hm, .inr (5, [.ref (am 1), .ref (am 2), .ref (am 3), .ref (am 4), .ref (am 5), .ref (am 6), .ref (am 7), .ref (am 8), .int 0, .ref (am 9), .int 0, .ref (am 10), .int 0, .ref (am 11), .ref (am 12), .int 0, .int 0, .int 1, .null, .null, .int 0, .int 0, .int 0, .long 0, .int 0, .ref (am 13), .int 0, .int 0, .int 0, .ref (am 14), .ref (am 15), .ref (am 16), .ref (am 17), .int 0, .ref (am 18), .ref (am 19), .ref (am 20)])), ((am 10), .inl (k 3, 16, .inr (.inr (.inr (.inr gd))))), ((am 40), .inl (k 0, 5, .inl f_22))] := by subst ef_22; exact hD
          refine lv_aload_n hx hb dX7_road_84 rfl (lv_at hl 0 rfl) ?_
          refine va_get (D := D) (ci := 5) (v := .ref (am 10)) (C := RX7) (T := TX7) (N := 37) hx hb hT iw_TX7 hown hK.1 hP 1 rfl rfl 11 (by decide) (hT _ wd_941) (fun _ h9 => h9) rfl dX7_road_85 ?_
          refine lv_aload_n hx hb dX7_road_88 rfl (lv_at hl 0 rfl) ?_
          refine va_get (D := D) (ci := 5) (v := .int 0) (C := RX7) (T := TX7) (N := 37) hx hb hT iw_TX7 hown hK.1 hP 1 rfl rfl 10 (by decide) (hT _ wd_940) (fun _ h9 => h9) rfl dX7_road_89 ?_
          refine gx_aldA hx hb hK.1 hP 2 3 rfl rfl (gx_vin rfl) dX7_road_92 ?_
          refine gx_csr (v := .ref (am 40)) (congrArg va_rf (hgd 0 (by decide))) ?_
          refine lv_iconst (v := 2) hx hb dX7_road_93 (by decide) ?_
          refine lv_iload_n hx hb dX7_road_94 rfl (lv_at hl 3 rfl) ?_
          refine va_iast hx hb hK.1 hP hD hS 3 0 rfl rfl (gx_vin rfl) dX7_road_95 (fun H locs hP hD hS => ?_)
          obtain ⟨f_23, ef_23⟩ : ∃ f9, f9 = upd f_22 (2 : Int32).toNatClampNeg (mv : Int32) := ⟨_, rfl⟩
          have hP : va_P D gx_cl [((am 9), .inl (k 0, 8, .inl (fun _ => 0))), (hm, .inr (5, [.ref (am 1), .ref (am 2), .ref (am 3), .ref (am 4), .ref (am 5), .ref (am 6), .ref (am 7), .ref (am 8), .int 0, .ref (am 9), .int 0, .ref (am 10), .int 0, .ref (am 11), .ref (am 12), .int 0, .int 0, .int 1, .null, .null, .int 0, .int 0, .int 0, .long 0, .int 0, .ref (am 13), .int 0, .int 0, .int 0, .ref (am 14), .ref (am 15), .ref (am 16), .ref (am 17), .int 0, .ref (am 18), .ref (am 19), .ref (am 20)])), ((am 10), .inl (k 3, 16, .inr (.inr (.inr (.inr gd))))), ((am 40), .inl (k 0, 5, .inl f_23))] H := by subst ef_23; exact hP
          have hD : va_D A [((am 9), .inl (k 0, 8, .inl (fun _ => 0))), (hm, .inr (5, [.ref (am 1), .ref (am 2), .ref (am 3), .ref (am 4), .ref (am 5), .ref (am 6), .ref (am 7), .ref (am 8), .int 0, .ref (am 9), .int 0, .ref (am 10), .int 0, .ref (am 11), .ref (am 12), .int 0, .int 0, .int 1, .null, .null, .int 0, .int 0, .int 0, .long 0, .int 0, .ref (am 13), .int 0, .int 0, .int 0, .ref (am 14), .ref (am 15), .ref (am 16), .ref (am 17), .int 0, .ref (am 18), .ref (am 19), .ref (am 20)])), ((am 10), .inl (k 3, 16, .inr (.inr (.inr (.inr gd))))), ((am 40), .inl (k 0, 5, .inl f_23))] := by subst ef_23; exact hD
          refine lv_aload_n hx hb dX7_road_96 rfl (lv_at hl 0 rfl) ?_
          refine va_get (D := D) (ci := 5) (v := .ref (am 10)) (C := RX7) (T := TX7) (N := 37) hx hb hT iw_TX7 hown hK.1 hP 1 rfl rfl 11 (by decide) (hT _ wd_941) (fun _ h9 => h9) rfl dX7_road_97 ?_
          refine lv_aload_n hx hb dX7_road_100 rfl (lv_at hl 0 rfl) ?_
          refine va_get (D := D) (ci := 5) (v := .int 0) (C := RX7) (T := TX7) (N := 37) hx hb hT iw_TX7 hown hK.1 hP 1 rfl rfl 10 (by decide) (hT _ wd_940) (fun _ h9 => h9) rfl dX7_road_101 ?_
          refine gx_aldA hx hb hK.1 hP 2 3 rfl rfl (gx_vin rfl) dX7_road_104 ?_
          refine gx_csr (v := .ref (am 40)) (congrArg va_rf (hgd 0 (by decide))) ?_
          refine lv_iconst (v := 4) hx hb dX7_road_105 (by decide) ?_
          refine lv_iload hx hb dX7_road_106 (lv_at hl 4 rfl) ?_
          refine lv_if_eq (tgt := 115) hx hb dX7_road_108 (by decide) (fun c_24 => ?_) (fun c_24 => ?_)
          · refine lv_iconst (v := 0) hx hb dX7_road_115 (by decide) ?_
            refine va_iast hx hb hK.1 hP hD hS 3 0 rfl rfl (gx_vin rfl) dX7_road_116 (fun H locs hP hD hS => ?_)
            obtain ⟨f_25, ef_25⟩ : ∃ f9, f9 = upd f_23 (4 : Int32).toNatClampNeg (0 : Int32) := ⟨_, rfl⟩
            have hP : va_P D gx_cl [((am 9), .inl (k 0, 8, .inl (fun _ => 0))), (hm, .inr (5, [.ref (am 1), .ref (am 2), .ref (am 3), .ref (am 4), .ref (am 5), .ref (am 6), .ref (am 7), .ref (am 8), .int 0, .ref (am 9), .int 0, .ref (am 10), .int 0, .ref (am 11), .ref (am 12), .int 0, .int 0, .int 1, .null, .null, .int 0, .int 0, .int 0, .long 0, .int 0, .ref (am 13), .int 0, .int 0, .int 0, .ref (am 14), .ref (am 15), .ref (am 16), .ref (am 17), .int 0, .ref (am 18), .ref (am 19), .ref (am 20)])), ((am 10), .inl (k 3, 16, .inr (.inr (.inr (.inr gd))))), ((am 40), .inl (k 0, 5, .inl f_25))] H := by subst ef_25; exact hP
            have hD : va_D A [((am 9), .inl (k 0, 8, .inl (fun _ => 0))), (hm, .inr (5, [.ref (am 1), .ref (am 2), .ref (am 3), .ref (am 4), .ref (am 5), .ref (am 6), .ref (am 7), .ref (am 8), .int 0, .ref (am 9), .int 0, .ref (am 10), .int 0, .ref (am 11), .ref (am 12), .int 0, .int 0, .int 1, .null, .null, .int 0, .int 0, .int 0, .long 0, .int 0, .ref (am 13), .int 0, .int 0, .int 0, .ref (am 14), .ref (am 15), .ref (am 16), .ref (am 17), .int 0, .ref (am 18), .ref (am 19), .ref (am 20)])), ((am 10), .inl (k 3, 16, .inr (.inr (.inr (.inr gd))))), ((am 40), .inl (k 0, 5, .inl f_25))] := by subst ef_25; exact hD
            refine lv_aload_n hx hb dX7_road_117 rfl (lv_at hl 0 rfl) ?_
            refine lv_dup hx hb dX7_road_118 rfl ?_
            refine va_get (D := D) (ci := 5) (v := .int 0) (C := RX7) (T := TX7) (N := 37) hx hb hT iw_TX7 hown hK.1 hP 1 rfl rfl 10 (by decide) (hT _ wd_940) (fun _ h9 => h9) rfl dX7_road_119 ?_
            refine lv_dup_x1 hx hb dX7_road_122 rfl rfl ?_
            refine lv_iconst (v := 1) hx hb dX7_road_123 (by decide) ?_
            refine lv_iadd hx hb dX7_road_124 ?_
            refine gx_cst (v := 1) (by decide) ?_
            refine va_put (D := D) (ci := 5) (v := .int 1) (ty := .int) (C := RX7) (T := TX7) (N := 37) hx hb hT iw_TX7 tyX7 tyX7_ok nmX7 hown hK.1 hP hD hS 1 rfl rfl 10 (by decide) (hT _ wd_940) (fun _ h9 => h9) rfl (by decide +kernel) rfl rfl (Nat.le_of_ble_eq_true rfl) dX7_road_125 (fun H locs hP hD hS => ?_)
            have hP : va_P D gx_cl [((am 9), .inl (k 0, 8, .inl (fun _ => 0))), (hm, .inr (5, [.ref (am 1), .ref (am 2), .ref (am 3), .ref (am 4), .ref (am 5), .ref (am 6), .ref (am 7), .ref (am 8), .int 0, .ref (am 9), .int 1, .ref (am 10), .int 0, .ref (am 11), .ref (am 12), .int 0, .int 0, .int 1, .null, .null, .int 0, .int 0, .int 0, .long 0, .int 0, .ref (am 13), .int 0, .int 0, .int 0, .ref (am 14), .ref (am 15), .ref (am 16), .ref (am 17), .int 0, .ref (am 18), .ref (am 19), .ref (am 20)])), ((am 10), .inl (k 3, 16, .inr (.inr (.inr (.inr gd))))), ((am 40), .inl (k 0, 5, .inl f_25))] H := hP
            have hD : va_D A [((am 9), .inl (k 0, 8, .inl (fun _ => 0))), (hm, .inr (5, [.ref (am 1), .ref (am 2), .ref (am 3), .ref (am 4), .ref (am 5), .ref (am 6), .ref (am 7), .ref (am 8), .int 0, .ref (am 9), .int 1, .ref (am 10), .int 0, .ref (am 11), .ref (am 12), .int 0, .int 0, .int 1, .null, .null, .int 0, .int 0, .int 0, .long 0, .int 0, .ref (am 13), .int 0, .int 0, .int 0, .ref (am 14), .ref (am 15), .ref (am 16), .ref (am 17), .int 0, .ref (am 18), .ref (am 19), .ref (am 20)])), ((am 10), .inl (k 3, 16, .inr (.inr (.inr (.inr gd))))), ((am 40), .inl (k 0, 5, .inl f_25))] := hD
            exact gx_retI C (u := ()) gx_nil gx_noneD hS (by simp [gs_road, c_1, c_4, c_12, c_7, c_24]) dX7_road_128
          · refine lv_iconst (v := 1) hx hb dX7_road_111 (by decide) ?_
            refine lv_goto (tgt := 116) hx hb dX7_road_112 (by decide) ?_
            refine va_iast hx hb hK.1 hP hD hS 3 0 rfl rfl (gx_vin rfl) dX7_road_116 (fun H locs hP hD hS => ?_)
            obtain ⟨f_26, ef_26⟩ : ∃ f9, f9 = upd f_23 (4 : Int32).toNatClampNeg (1 : Int32) := ⟨_, rfl⟩
            have hP : va_P D gx_cl [((am 9), .inl (k 0, 8, .inl (fun _ => 0))), (hm, .inr (5, [.ref (am 1), .ref (am 2), .ref (am 3), .ref (am 4), .ref (am 5), .ref (am 6), .ref (am 7), .ref (am 8), .int 0, .ref (am 9), .int 0, .ref (am 10), .int 0, .ref (am 11), .ref (am 12), .int 0, .int 0, .int 1, .null, .null, .int 0, .int 0, .int 0, .long 0, .int 0, .ref (am 13), .int 0, .int 0, .int 0, .ref (am 14), .ref (am 15), .ref (am 16), .ref (am 17), .int 0, .ref (am 18), .ref (am 19), .ref (am 20)])), ((am 10), .inl (k 3, 16, .inr (.inr (.inr (.inr gd))))), ((am 40), .inl (k 0, 5, .inl f_26))] H := by subst ef_26; exact hP
            have hD : va_D A [((am 9), .inl (k 0, 8, .inl (fun _ => 0))), (hm, .inr (5, [.ref (am 1), .ref (am 2), .ref (am 3), .ref (am 4), .ref (am 5), .ref (am 6), .ref (am 7), .ref (am 8), .int 0, .ref (am 9), .int 0, .ref (am 10), .int 0, .ref (am 11), .ref (am 12), .int 0, .int 0, .int 1, .null, .null, .int 0, .int 0, .int 0, .long 0, .int 0, .ref (am 13), .int 0, .int 0, .int 0, .ref (am 14), .ref (am 15), .ref (am 16), .ref (am 17), .int 0, .ref (am 18), .ref (am 19), .ref (am 20)])), ((am 10), .inl (k 3, 16, .inr (.inr (.inr (.inr gd))))), ((am 40), .inl (k 0, 5, .inl f_26))] := by subst ef_26; exact hD
            refine lv_aload_n hx hb dX7_road_117 rfl (lv_at hl 0 rfl) ?_
            refine lv_dup hx hb dX7_road_118 rfl ?_
            refine va_get (D := D) (ci := 5) (v := .int 0) (C := RX7) (T := TX7) (N := 37) hx hb hT iw_TX7 hown hK.1 hP 1 rfl rfl 10 (by decide) (hT _ wd_940) (fun _ h9 => h9) rfl dX7_road_119 ?_
            refine lv_dup_x1 hx hb dX7_road_122 rfl rfl ?_
            refine lv_iconst (v := 1) hx hb dX7_road_123 (by decide) ?_
            refine lv_iadd hx hb dX7_road_124 ?_
            refine gx_cst (v := 1) (by decide) ?_
            refine va_put (D := D) (ci := 5) (v := .int 1) (ty := .int) (C := RX7) (T := TX7) (N := 37) hx hb hT iw_TX7 tyX7 tyX7_ok nmX7 hown hK.1 hP hD hS 1 rfl rfl 10 (by decide) (hT _ wd_940) (fun _ h9 => h9) rfl (by decide +kernel) rfl rfl (Nat.le_of_ble_eq_true rfl) dX7_road_125 (fun H locs hP hD hS => ?_)
            have hP : va_P D gx_cl [((am 9), .inl (k 0, 8, .inl (fun _ => 0))), (hm, .inr (5, [.ref (am 1), .ref (am 2), .ref (am 3), .ref (am 4), .ref (am 5), .ref (am 6), .ref (am 7), .ref (am 8), .int 0, .ref (am 9), .int 1, .ref (am 10), .int 0, .ref (am 11), .ref (am 12), .int 0, .int 0, .int 1, .null, .null, .int 0, .int 0, .int 0, .long 0, .int 0, .ref (am 13), .int 0, .int 0, .int 0, .ref (am 14), .ref (am 15), .ref (am 16), .ref (am 17), .int 0, .ref (am 18), .ref (am 19), .ref (am 20)])), ((am 10), .inl (k 3, 16, .inr (.inr (.inr (.inr gd))))), ((am 40), .inl (k 0, 5, .inl f_26))] H := hP
            have hD : va_D A [((am 9), .inl (k 0, 8, .inl (fun _ => 0))), (hm, .inr (5, [.ref (am 1), .ref (am 2), .ref (am 3), .ref (am 4), .ref (am 5), .ref (am 6), .ref (am 7), .ref (am 8), .int 0, .ref (am 9), .int 1, .ref (am 10), .int 0, .ref (am 11), .ref (am 12), .int 0, .int 0, .int 1, .null, .null, .int 0, .int 0, .int 0, .long 0, .int 0, .ref (am 13), .int 0, .int 0, .int 0, .ref (am 14), .ref (am 15), .ref (am 16), .ref (am 17), .int 0, .ref (am 18), .ref (am 19), .ref (am 20)])), ((am 10), .inl (k 3, 16, .inr (.inr (.inr (.inr gd))))), ((am 40), .inl (k 0, 5, .inl f_26))] := hD
            exact gx_retI C (u := ()) gx_nil gx_noneD hS (by simp [gs_road, c_1, c_4, c_12, c_7, c_24]) dX7_road_128
        · refine lv_if_ne (tgt := 40) hx hb dX7_road_30 (by decide) (fun c_27 => absurd (by decide) c_27) (fun c_27 => ?_)
          refine lv_aload_n hx hb dX7_road_33 rfl (lv_at hl 0 rfl) ?_
          refine lv_bipush (v := (-2)) hx hb dX7_road_34 (by decide) ?_
          refine gx_ei (wc := ([(hm, .inr (5, [.ref (am 1), .ref (am 2), .ref (am 3), .ref (am 4), .ref (am 5), .ref (am 6), .ref (am 7), .ref (am 8), .int 0, .ref (am 9), .int 0, .ref (am 10), .int 0, .ref (am 11), .ref (am 12), .int 0, .int 0, .int 1, .null, .null, .int 0, .int 0, .int 0, .long 0, .int 0, .ref (am 13), .int 0, .int 0, .int 0, .ref (am 14), .ref (am 15), .ref (am 16), .ref (am 17), .int 0, .ref (am 18), .ref (am 19), .ref (am 20)])), ((am 9), .inl (k 0, 8, .inl (fun _ => 0)))] : va_W)) (wr := [((am 10), .inl (k 3, 16, .inr (.inr (.inr (.inr gd))))), ((am 40), .inl (k 0, 5, .inl (gx_zz 0))), ((am 12), .inl (k 3, 6, .inr (.inr (.inr (.inr gl))))), ((am 70), .inl (k 0, 16, .inl (gx_zz 0))), ((am 71), .inl (k 0, 16, .inl (gx_zz 1))), ((am 72), .inl (k 0, 16, .inl (gx_zz 2))), ((am 73), .inl (k 0, 16, .inl (gx_zz 3))), ((am 74), .inl (k 0, 16, .inl (gx_zz 4))), ((am 75), .inl (k 0, 16, .inl (gx_zz 5)))]) (isC := [0, 1]) (isR := [2, 3, 4, 5, 6, 7, 8, 9, 10]) hP hD hS hA rfl rfl (by decide) (by decide) (gx_runV (na := 1) (As := [.int (-2)]) (rest := []) (ci := 5) C hl.1 hK (gx_subP (wc := ([(hm, .inr (5, [.ref (am 1), .ref (am 2), .ref (am 3), .ref (am 4), .ref (am 5), .ref (am 6), .ref (am 7), .ref (am 8), .int 0, .ref (am 9), .int 0, .ref (am 10), .int 0, .ref (am 11), .ref (am 12), .int 0, .int 0, .int 1, .null, .null, .int 0, .int 0, .int 0, .long 0, .int 0, .ref (am 13), .int 0, .int 0, .int 0, .ref (am 14), .ref (am 15), .ref (am 16), .ref (am 17), .int 0, .ref (am 18), .ref (am 19), .ref (am 20)])), ((am 9), .inl (k 0, 8, .inl (fun _ => 0)))] : va_W)) hP [0, 1] rfl) ((hD.sub (ws' := ([(hm, .inr (5, [.ref (am 1), .ref (am 2), .ref (am 3), .ref (am 4), .ref (am 5), .ref (am 6), .ref (am 7), .ref (am 8), .int 0, .ref (am 9), .int 0, .ref (am 10), .int 0, .ref (am 11), .ref (am 12), .int 0, .int 0, .int 1, .null, .null, .int 0, .int 0, .int 0, .long 0, .int 0, .ref (am 13), .int 0, .int 0, .int 0, .ref (am 14), .ref (am 15), .ref (am 16), .ref (am 17), .int 0, .ref (am 18), .ref (am 19), .ref (am 20)])), ((am 9), .inl (k 0, 8, .inl (fun _ => 0)))] : va_W)) [0, 1] (by decide) rfl).weaken (fun _ _ _ _ => trivial)) (m_refuse2 l D k hm am .null .null 0 _) gV_RX7_95 (by decide +kernel) rfl rfl ⟨Nat.le_of_ble_eq_true rfl, Nat.le_of_ble_eq_true rfl⟩ rfl rfl rfl rfl (Nat.le_of_ble_eq_true rfl) dX7_road_36 ⟨Nat.le_of_ble_eq_true rfl, Nat.le_of_ble_eq_true rfl⟩) (fun r_30 u_28 H locs h_29 hP hD hS => ?_)
          have h_29 : r_30 = -2 := h_29
          have hP : va_P D gx_cl [((am 10), .inl (k 3, 16, .inr (.inr (.inr (.inr gd))))), ((am 40), .inl (k 0, 5, .inl (gx_zz 0))), ((am 12), .inl (k 3, 6, .inr (.inr (.inr (.inr gl))))), ((am 70), .inl (k 0, 16, .inl (gx_zz 0))), ((am 71), .inl (k 0, 16, .inl (gx_zz 1))), ((am 72), .inl (k 0, 16, .inl (gx_zz 2))), ((am 73), .inl (k 0, 16, .inl (gx_zz 3))), ((am 74), .inl (k 0, 16, .inl (gx_zz 4))), ((am 75), .inl (k 0, 16, .inl (gx_zz 5)))] H := hP
          have hD : va_D A [((am 10), .inl (k 3, 16, .inr (.inr (.inr (.inr gd))))), ((am 40), .inl (k 0, 5, .inl (gx_zz 0))), ((am 12), .inl (k 3, 6, .inr (.inr (.inr (.inr gl))))), ((am 70), .inl (k 0, 16, .inl (gx_zz 0))), ((am 71), .inl (k 0, 16, .inl (gx_zz 1))), ((am 72), .inl (k 0, 16, .inl (gx_zz 2))), ((am 73), .inl (k 0, 16, .inl (gx_zz 3))), ((am 74), .inl (k 0, 16, .inl (gx_zz 4))), ((am 75), .inl (k 0, 16, .inl (gx_zz 5)))] := hD
          have eh_29 := h_29
          subst eh_29
          exact gx_retI C (u := ()) gx_nil gx_noneD hS (by simp [gs_road, c_1, c_4, c_12, c_7]) dX7_road_39
    · refine lv_if_eq (tgt := 33) hx hb dX7_road_13 (by decide) (fun c_32 => ?_) (fun c_32 => absurd (by decide) c_32)
      refine lv_aload_n hx hb dX7_road_33 rfl (lv_at hl 0 rfl) ?_
      refine lv_bipush (v := (-2)) hx hb dX7_road_34 (by decide) ?_
      refine gx_ei (wc := ([(hm, .inr (5, [.ref (am 1), .ref (am 2), .ref (am 3), .ref (am 4), .ref (am 5), .ref (am 6), .ref (am 7), .ref (am 8), .int 0, .ref (am 9), .int 0, .ref (am 10), .int 0, .ref (am 11), .ref (am 12), .int 0, .int 0, .int 1, .null, .null, .int 0, .int 0, .int 0, .long 0, .int 0, .ref (am 13), .int 0, .int 0, .int 0, .ref (am 14), .ref (am 15), .ref (am 16), .ref (am 17), .int 0, .ref (am 18), .ref (am 19), .ref (am 20)])), ((am 9), .inl (k 0, 8, .inl (fun _ => 0)))] : va_W)) (wr := [((am 10), .inl (k 3, 16, .inr (.inr (.inr (.inr gd))))), ((am 40), .inl (k 0, 5, .inl (gx_zz 0))), ((am 12), .inl (k 3, 6, .inr (.inr (.inr (.inr gl))))), ((am 70), .inl (k 0, 16, .inl (gx_zz 0))), ((am 71), .inl (k 0, 16, .inl (gx_zz 1))), ((am 72), .inl (k 0, 16, .inl (gx_zz 2))), ((am 73), .inl (k 0, 16, .inl (gx_zz 3))), ((am 74), .inl (k 0, 16, .inl (gx_zz 4))), ((am 75), .inl (k 0, 16, .inl (gx_zz 5)))]) (isC := [0, 1]) (isR := [2, 3, 4, 5, 6, 7, 8, 9, 10]) hP hD hS hA rfl rfl (by decide) (by decide) (gx_runV (na := 1) (As := [.int (-2)]) (rest := []) (ci := 5) C hl.1 hK (gx_subP (wc := ([(hm, .inr (5, [.ref (am 1), .ref (am 2), .ref (am 3), .ref (am 4), .ref (am 5), .ref (am 6), .ref (am 7), .ref (am 8), .int 0, .ref (am 9), .int 0, .ref (am 10), .int 0, .ref (am 11), .ref (am 12), .int 0, .int 0, .int 1, .null, .null, .int 0, .int 0, .int 0, .long 0, .int 0, .ref (am 13), .int 0, .int 0, .int 0, .ref (am 14), .ref (am 15), .ref (am 16), .ref (am 17), .int 0, .ref (am 18), .ref (am 19), .ref (am 20)])), ((am 9), .inl (k 0, 8, .inl (fun _ => 0)))] : va_W)) hP [0, 1] rfl) ((hD.sub (ws' := ([(hm, .inr (5, [.ref (am 1), .ref (am 2), .ref (am 3), .ref (am 4), .ref (am 5), .ref (am 6), .ref (am 7), .ref (am 8), .int 0, .ref (am 9), .int 0, .ref (am 10), .int 0, .ref (am 11), .ref (am 12), .int 0, .int 0, .int 1, .null, .null, .int 0, .int 0, .int 0, .long 0, .int 0, .ref (am 13), .int 0, .int 0, .int 0, .ref (am 14), .ref (am 15), .ref (am 16), .ref (am 17), .int 0, .ref (am 18), .ref (am 19), .ref (am 20)])), ((am 9), .inl (k 0, 8, .inl (fun _ => 0)))] : va_W)) [0, 1] (by decide) rfl).weaken (fun _ _ _ _ => trivial)) (m_refuse2 l D k hm am .null .null 0 _) gV_RX7_95 (by decide +kernel) rfl rfl ⟨Nat.le_of_ble_eq_true rfl, Nat.le_of_ble_eq_true rfl⟩ rfl rfl rfl rfl (Nat.le_of_ble_eq_true rfl) dX7_road_36 ⟨Nat.le_of_ble_eq_true rfl, Nat.le_of_ble_eq_true rfl⟩) (fun r_35 u_33 H locs h_34 hP hD hS => ?_)
      have h_34 : r_35 = -2 := h_34
      have hP : va_P D gx_cl [((am 10), .inl (k 3, 16, .inr (.inr (.inr (.inr gd))))), ((am 40), .inl (k 0, 5, .inl (gx_zz 0))), ((am 12), .inl (k 3, 6, .inr (.inr (.inr (.inr gl))))), ((am 70), .inl (k 0, 16, .inl (gx_zz 0))), ((am 71), .inl (k 0, 16, .inl (gx_zz 1))), ((am 72), .inl (k 0, 16, .inl (gx_zz 2))), ((am 73), .inl (k 0, 16, .inl (gx_zz 3))), ((am 74), .inl (k 0, 16, .inl (gx_zz 4))), ((am 75), .inl (k 0, 16, .inl (gx_zz 5)))] H := hP
      have hD : va_D A [((am 10), .inl (k 3, 16, .inr (.inr (.inr (.inr gd))))), ((am 40), .inl (k 0, 5, .inl (gx_zz 0))), ((am 12), .inl (k 3, 6, .inr (.inr (.inr (.inr gl))))), ((am 70), .inl (k 0, 16, .inl (gx_zz 0))), ((am 71), .inl (k 0, 16, .inl (gx_zz 1))), ((am 72), .inl (k 0, 16, .inl (gx_zz 2))), ((am 73), .inl (k 0, 16, .inl (gx_zz 3))), ((am 74), .inl (k 0, 16, .inl (gx_zz 4))), ((am 75), .inl (k 0, 16, .inl (gx_zz 5)))] := hD
      have eh_34 := h_34
      subst eh_34
      exact gx_retI C (u := ()) gx_nil gx_noneD hS (by simp [gs_road, c_1, c_4]) dX7_road_39
  · refine lv_if_eq (tgt := 33) hx hb dX7_road_5 (by decide) (fun c_37 => ?_) (fun c_37 => absurd (by decide) c_37)
    refine lv_aload_n hx hb dX7_road_33 rfl (lv_at hl 0 rfl) ?_
    refine lv_bipush (v := (-2)) hx hb dX7_road_34 (by decide) ?_
    refine gx_ei (wc := ([(hm, .inr (5, [.ref (am 1), .ref (am 2), .ref (am 3), .ref (am 4), .ref (am 5), .ref (am 6), .ref (am 7), .ref (am 8), .int 0, .ref (am 9), .int 0, .ref (am 10), .int 0, .ref (am 11), .ref (am 12), .int 0, .int 0, .int 1, .null, .null, .int 0, .int 0, .int 0, .long 0, .int 0, .ref (am 13), .int 0, .int 0, .int 0, .ref (am 14), .ref (am 15), .ref (am 16), .ref (am 17), .int 0, .ref (am 18), .ref (am 19), .ref (am 20)])), ((am 9), .inl (k 0, 8, .inl (fun _ => 0)))] : va_W)) (wr := [((am 10), .inl (k 3, 16, .inr (.inr (.inr (.inr gd))))), ((am 40), .inl (k 0, 5, .inl (gx_zz 0))), ((am 12), .inl (k 3, 6, .inr (.inr (.inr (.inr gl))))), ((am 70), .inl (k 0, 16, .inl (gx_zz 0))), ((am 71), .inl (k 0, 16, .inl (gx_zz 1))), ((am 72), .inl (k 0, 16, .inl (gx_zz 2))), ((am 73), .inl (k 0, 16, .inl (gx_zz 3))), ((am 74), .inl (k 0, 16, .inl (gx_zz 4))), ((am 75), .inl (k 0, 16, .inl (gx_zz 5)))]) (isC := [0, 1]) (isR := [2, 3, 4, 5, 6, 7, 8, 9, 10]) hP hD hS hA rfl rfl (by decide) (by decide) (gx_runV (na := 1) (As := [.int (-2)]) (rest := []) (ci := 5) C hl.1 hK (gx_subP (wc := ([(hm, .inr (5, [.ref (am 1), .ref (am 2), .ref (am 3), .ref (am 4), .ref (am 5), .ref (am 6), .ref (am 7), .ref (am 8), .int 0, .ref (am 9), .int 0, .ref (am 10), .int 0, .ref (am 11), .ref (am 12), .int 0, .int 0, .int 1, .null, .null, .int 0, .int 0, .int 0, .long 0, .int 0, .ref (am 13), .int 0, .int 0, .int 0, .ref (am 14), .ref (am 15), .ref (am 16), .ref (am 17), .int 0, .ref (am 18), .ref (am 19), .ref (am 20)])), ((am 9), .inl (k 0, 8, .inl (fun _ => 0)))] : va_W)) hP [0, 1] rfl) ((hD.sub (ws' := ([(hm, .inr (5, [.ref (am 1), .ref (am 2), .ref (am 3), .ref (am 4), .ref (am 5), .ref (am 6), .ref (am 7), .ref (am 8), .int 0, .ref (am 9), .int 0, .ref (am 10), .int 0, .ref (am 11), .ref (am 12), .int 0, .int 0, .int 1, .null, .null, .int 0, .int 0, .int 0, .long 0, .int 0, .ref (am 13), .int 0, .int 0, .int 0, .ref (am 14), .ref (am 15), .ref (am 16), .ref (am 17), .int 0, .ref (am 18), .ref (am 19), .ref (am 20)])), ((am 9), .inl (k 0, 8, .inl (fun _ => 0)))] : va_W)) [0, 1] (by decide) rfl).weaken (fun _ _ _ _ => trivial)) (m_refuse2 l D k hm am .null .null 0 _) gV_RX7_95 (by decide +kernel) rfl rfl ⟨Nat.le_of_ble_eq_true rfl, Nat.le_of_ble_eq_true rfl⟩ rfl rfl rfl rfl (Nat.le_of_ble_eq_true rfl) dX7_road_36 ⟨Nat.le_of_ble_eq_true rfl, Nat.le_of_ble_eq_true rfl⟩) (fun r_40 u_38 H locs h_39 hP hD hS => ?_)
    have h_39 : r_40 = -2 := h_39
    have hP : va_P D gx_cl [((am 10), .inl (k 3, 16, .inr (.inr (.inr (.inr gd))))), ((am 40), .inl (k 0, 5, .inl (gx_zz 0))), ((am 12), .inl (k 3, 6, .inr (.inr (.inr (.inr gl))))), ((am 70), .inl (k 0, 16, .inl (gx_zz 0))), ((am 71), .inl (k 0, 16, .inl (gx_zz 1))), ((am 72), .inl (k 0, 16, .inl (gx_zz 2))), ((am 73), .inl (k 0, 16, .inl (gx_zz 3))), ((am 74), .inl (k 0, 16, .inl (gx_zz 4))), ((am 75), .inl (k 0, 16, .inl (gx_zz 5)))] H := hP
    have hD : va_D A [((am 10), .inl (k 3, 16, .inr (.inr (.inr (.inr gd))))), ((am 40), .inl (k 0, 5, .inl (gx_zz 0))), ((am 12), .inl (k 3, 6, .inr (.inr (.inr (.inr gl))))), ((am 70), .inl (k 0, 16, .inl (gx_zz 0))), ((am 71), .inl (k 0, 16, .inl (gx_zz 1))), ((am 72), .inl (k 0, 16, .inl (gx_zz 2))), ((am 73), .inl (k 0, 16, .inl (gx_zz 3))), ((am 74), .inl (k 0, 16, .inl (gx_zz 4))), ((am 75), .inl (k 0, 16, .inl (gx_zz 5)))] := hD
    have eh_39 := h_39
    subst eh_39
    exact gx_retI C (u := ()) gx_nil gx_noneD hS (by simp [gs_road, c_1]) dX7_road_39
set_option maxHeartbeats 4000000 in
set_option maxRecDepth 100000 in
theorem m_one_pub (l : Launch) (D : va_G) (k : Nat → ClassId) (hm : Nat) (am : Nat → Nat) (go : Nat → Option Nat) (gl : Nat → Option Nat) (hv : Int32) (hgo : ∀ i, i < 6 → go i = some (am (60 + i))) (hgl : ∀ i, i < 6 → gl i = some (am (70 + i))) (sz : Nat) : Met l yX7_one (.code yX7_one cX7_one 2 (some .int) :: gx_T) ({ frames := 2, cells := 0, slots := 0, locals := 46 }) (gx_Pre D k [.ref hm, .int hv] ([(hm, .inr (5, [.ref (am 1), .ref (am 2), .ref (am 3), .ref (am 4), .ref (am 5), .ref (am 6), .ref (am 7), .ref (am 8), .int 0, .ref (am 9), .int 0, .ref (am 10), .int 0, .ref (am 11), .ref (am 12), .int 0, .int 0, .int 1, .null, .null, .int 0, .int 0, .int 0, .long 0, .int 0, .ref (am 13), .int 0, .int 0, .int 0, .ref (am 14), .ref (am 15), .ref (am 16), .ref (am 17), .int 0, .ref (am 18), .ref (am 19), .ref (am 20)])), ((am 9), .inl (k 0, 8, .inl (fun _ => 0))), ((am 11), .inl (k 3, 6, .inr (.inr (.inr (.inr go))))), ((am 60), .inl (k 0, 4, .inl (gx_zz 0))), ((am 12), .inl (k 3, 6, .inr (.inr (.inr (.inr gl))))), ((am 70), .inl (k 0, 16, .inl (gx_zz 0)))]) sz) (gx_Qi D (fun (r : Int32) (u : Unit) => r = (gs_one hv)) (fun (u : Unit) => ([] : va_W)) (va_A ([(hm, .inr (5, [.ref (am 1), .ref (am 2), .ref (am 3), .ref (am 4), .ref (am 5), .ref (am 6), .ref (am 7), .ref (am 8), .int 0, .ref (am 9), .int 0, .ref (am 10), .int 0, .ref (am 11), .ref (am 12), .int 0, .int 0, .int 1, .null, .null, .int 0, .int 0, .int 0, .long 0, .int 0, .ref (am 13), .int 0, .int 0, .int 0, .ref (am 14), .ref (am 15), .ref (am 16), .ref (am 17), .int 0, .ref (am 18), .ref (am 19), .ref (am 20)])), ((am 9), .inl (k 0, 8, .inl (fun _ => 0))), ((am 11), .inl (k 3, 6, .inr (.inr (.inr (.inr go))))), ((am 60), .inl (k 0, 4, .inl (gx_zz 0))), ((am 12), .inl (k 3, 6, .inr (.inr (.inr (.inr gl))))), ((am 70), .inl (k 0, 16, .inl (gx_zz 0)))]) sz)) 0 0 (va_A ([(hm, .inr (5, [.ref (am 1), .ref (am 2), .ref (am 3), .ref (am 4), .ref (am 5), .ref (am 6), .ref (am 7), .ref (am 8), .int 0, .ref (am 9), .int 0, .ref (am 10), .int 0, .ref (am 11), .ref (am 12), .int 0, .int 0, .int 1, .null, .null, .int 0, .int 0, .int 0, .long 0, .int 0, .ref (am 13), .int 0, .int 0, .int 0, .ref (am 14), .ref (am 15), .ref (am 16), .ref (am 17), .int 0, .ref (am 18), .ref (am 19), .ref (am 20)])), ((am 9), .inl (k 0, 8, .inl (fun _ => 0))), ((am 11), .inl (k 3, 6, .inr (.inr (.inr (.inr go))))), ((am 60), .inl (k 0, 4, .inl (gx_zz 0))), ((am 12), .inl (k 3, 6, .inr (.inr (.inr (.inr gl))))), ((am 70), .inl (k 0, 16, .inl (gx_zz 0)))]) sz) := by
  refine gx_metE (Qc := fun A => gx_Qi D (fun (r : Int32) (u : Unit) => r = (gs_one hv)) (fun (u : Unit) => ([] : va_W)) A) (y := yX7_one) (cc := cX7_one) (n := 2) (ret := (some .int)) (av := [.ref hm, .int hv]) (by decide) (Nat.le_of_ble_eq_true rfl) ?_
  intro p e s m below meth c A ls C hA hP hD hK hS hl
  obtain ⟨hx, hb, hr, hml, hown, hT, hlk, hin⟩ := id C
  have hown : s.vm.findClass RX7 = some m.cls := hown
  have hl : lv_has ls 2 [(0, .ref hm), (1, .int hv)] := hl
  refine lv_iload_n hx hb dX7_one_0 rfl (lv_at hl 1 rfl) ?_
  refine lv_i2l (v := (hv).toInt64) hx hb dX7_one_1 (rfl) ?_
  refine gx_pi hP hS (gx_runS (na := 1) (As := [.long ((hv).toInt64)]) (rest := []) C hl.1 hK (gx_subP (wc := ([] : va_W)) hP [] rfl) ((hD.sub (ws' := ([] : va_W)) [] (by decide) rfl).weaken (fun _ _ _ _ => trivial)) (m_isPlace l D k hv _) gS_RX7_118 (by decide +kernel) rfl rfl ⟨Nat.le_of_ble_eq_true rfl, Nat.le_of_ble_eq_true rfl⟩ rfl rfl (Nat.le_of_ble_eq_true rfl) dX7_one_2 ⟨Nat.le_of_ble_eq_true rfl, Nat.le_of_ble_eq_true rfl⟩) (fun r_2 H locs pc_1 hP hS => ?_)
  have oc_1 : r_2 = 1 ∧ gx_b hv 0 7 = true ∨ r_2 = 0 ∧ gx_b hv 0 7 = false := pc_1
  clear pc_1
  rcases oc_1 with ⟨rfl, c_1⟩ | ⟨rfl, c_1⟩
  · refine lv_if_ne (tgt := 15) hx hb dX7_one_5 (by decide) (fun c_3 => ?_) (fun c_3 => absurd c_3 (by decide))
    refine lv_aload_n hx hb dX7_one_15 rfl (lv_at hl 0 rfl) ?_
    refine va_get (D := D) (ci := 5) (v := .int 0) (C := RX7) (T := TX7) (N := 37) hx hb hT iw_TX7 hown hK.1 hP 0 rfl rfl 12 (by decide) (hT _ wd_942) (fun _ h9 => h9) rfl dX7_one_16 ?_
    refine lv_bipush (v := 6) hx hb dX7_one_19 (by decide) ?_
    refine lv_icmp_ne (tgt := 31) hx hb dX7_one_21 (by decide) (fun c_4 => ?_) (fun c_4 => absurd c_4 (by decide))
    refine lv_aload_n hx hb dX7_one_31 rfl (lv_at hl 0 rfl) ?_
    refine lv_iload_n hx hb dX7_one_32 rfl (lv_at hl 1 rfl) ?_
    refine gx_ev (wc := ([(hm, .inr (5, [.ref (am 1), .ref (am 2), .ref (am 3), .ref (am 4), .ref (am 5), .ref (am 6), .ref (am 7), .ref (am 8), .int 0, .ref (am 9), .int 0, .ref (am 10), .int 0, .ref (am 11), .ref (am 12), .int 0, .int 0, .int 1, .null, .null, .int 0, .int 0, .int 0, .long 0, .int 0, .ref (am 13), .int 0, .int 0, .int 0, .ref (am 14), .ref (am 15), .ref (am 16), .ref (am 17), .int 0, .ref (am 18), .ref (am 19), .ref (am 20)])), ((am 11), .inl (k 3, 6, .inr (.inr (.inr (.inr go))))), ((am 60), .inl (k 0, 4, .inl (gx_zz 0))), ((am 12), .inl (k 3, 6, .inr (.inr (.inr (.inr gl))))), ((am 70), .inl (k 0, 16, .inl (gx_zz 0)))] : va_W)) (wr := [((am 9), .inl (k 0, 8, .inl (fun _ => 0)))]) (isC := [0, 2, 3, 4, 5]) (isR := [1]) hP hD hS hA rfl rfl (by decide) (by decide) (gx_runV (na := 1) (As := [.int hv]) (rest := []) (ci := 5) C hl.1 hK (gx_subP (wc := ([(hm, .inr (5, [.ref (am 1), .ref (am 2), .ref (am 3), .ref (am 4), .ref (am 5), .ref (am 6), .ref (am 7), .ref (am 8), .int 0, .ref (am 9), .int 0, .ref (am 10), .int 0, .ref (am 11), .ref (am 12), .int 0, .int 0, .int 1, .null, .null, .int 0, .int 0, .int 0, .long 0, .int 0, .ref (am 13), .int 0, .int 0, .int 0, .ref (am 14), .ref (am 15), .ref (am 16), .ref (am 17), .int 0, .ref (am 18), .ref (am 19), .ref (am 20)])), ((am 11), .inl (k 3, 6, .inr (.inr (.inr (.inr go))))), ((am 60), .inl (k 0, 4, .inl (gx_zz 0))), ((am 12), .inl (k 3, 6, .inr (.inr (.inr (.inr gl))))), ((am 70), .inl (k 0, 16, .inl (gx_zz 0)))] : va_W)) hP [0, 2, 3, 4, 5] rfl) ((hD.sub (ws' := ([(hm, .inr (5, [.ref (am 1), .ref (am 2), .ref (am 3), .ref (am 4), .ref (am 5), .ref (am 6), .ref (am 7), .ref (am 8), .int 0, .ref (am 9), .int 0, .ref (am 10), .int 0, .ref (am 11), .ref (am 12), .int 0, .int 0, .int 1, .null, .null, .int 0, .int 0, .int 0, .long 0, .int 0, .ref (am 13), .int 0, .int 0, .int 0, .ref (am 14), .ref (am 15), .ref (am 16), .ref (am 17), .int 0, .ref (am 18), .ref (am 19), .ref (am 20)])), ((am 11), .inl (k 3, 6, .inr (.inr (.inr (.inr go))))), ((am 60), .inl (k 0, 4, .inl (gx_zz 0))), ((am 12), .inl (k 3, 6, .inr (.inr (.inr (.inr gl))))), ((am 70), .inl (k 0, 16, .inl (gx_zz 0)))] : va_W)) [0, 2, 3, 4, 5] (by decide) rfl).weaken (fun _ _ _ _ => trivial)) (m_newOne l D k hm am go gl hv hgo hgl _) gV_RX7_127 (by decide +kernel) rfl rfl ⟨Nat.le_of_ble_eq_true rfl, Nat.le_of_ble_eq_true rfl⟩ rfl rfl rfl rfl (Nat.le_of_ble_eq_true rfl) dX7_one_33 ⟨Nat.le_of_ble_eq_true rfl, Nat.le_of_ble_eq_true rfl⟩) (fun u_5 H locs h_6 hP hD hS => ?_)
    have hP : va_P D gx_cl [((am 9), .inl (k 0, 8, .inl (fun _ => 0))), (hm, .inr (5, [.ref (am 1), .ref (am 2), .ref (am 3), .ref (am 4), .ref (am 5), .ref (am 6), .ref (am 7), .ref (am 8), .int 0, .ref (am 9), .int 0, .ref (am 10), .int 1, .ref (am 11), .ref (am 12), .int 0, .int 0, .int 1, .null, .null, .int 0, .int 0, .int 0, .long 0, .int 0, .ref (am 13), .int 0, .int 0, .int 0, .ref (am 14), .ref (am 15), .ref (am 16), .ref (am 17), .int 0, .ref (am 18), .ref (am 19), .ref (am 20)]))] H := hP
    have hD : va_D A [((am 9), .inl (k 0, 8, .inl (fun _ => 0))), (hm, .inr (5, [.ref (am 1), .ref (am 2), .ref (am 3), .ref (am 4), .ref (am 5), .ref (am 6), .ref (am 7), .ref (am 8), .int 0, .ref (am 9), .int 0, .ref (am 10), .int 1, .ref (am 11), .ref (am 12), .int 0, .int 0, .int 1, .null, .null, .int 0, .int 0, .int 0, .long 0, .int 0, .ref (am 13), .int 0, .int 0, .int 0, .ref (am 14), .ref (am 15), .ref (am 16), .ref (am 17), .int 0, .ref (am 18), .ref (am 19), .ref (am 20)]))] := hD
    refine lv_aload_n hx hb dX7_one_36 rfl (lv_at hl 0 rfl) ?_
    refine va_get (D := D) (ci := 5) (v := .int 1) (C := RX7) (T := TX7) (N := 37) hx hb hT iw_TX7 hown hK.1 hP 1 rfl rfl 12 (by decide) (hT _ wd_942) (fun _ h9 => h9) rfl dX7_one_37 ?_
    refine lv_iconst (v := 1) hx hb dX7_one_40 (by decide) ?_
    refine lv_isub hx hb dX7_one_41 ?_
    refine gx_cst (v := 0) (by decide) ?_
    exact gx_retI C (u := ()) gx_nil gx_noneD hS (by simp [gs_one, c_1]) dX7_one_42
  · refine lv_if_ne (tgt := 15) hx hb dX7_one_5 (by decide) (fun c_9 => absurd (by decide) c_9) (fun c_9 => ?_)
    refine lv_aload_n hx hb dX7_one_8 rfl (lv_at hl 0 rfl) ?_
    refine lv_bipush (v := (-2)) hx hb dX7_one_9 (by decide) ?_
    refine gx_ei (wc := ([(hm, .inr (5, [.ref (am 1), .ref (am 2), .ref (am 3), .ref (am 4), .ref (am 5), .ref (am 6), .ref (am 7), .ref (am 8), .int 0, .ref (am 9), .int 0, .ref (am 10), .int 0, .ref (am 11), .ref (am 12), .int 0, .int 0, .int 1, .null, .null, .int 0, .int 0, .int 0, .long 0, .int 0, .ref (am 13), .int 0, .int 0, .int 0, .ref (am 14), .ref (am 15), .ref (am 16), .ref (am 17), .int 0, .ref (am 18), .ref (am 19), .ref (am 20)])), ((am 9), .inl (k 0, 8, .inl (fun _ => 0)))] : va_W)) (wr := [((am 11), .inl (k 3, 6, .inr (.inr (.inr (.inr go))))), ((am 60), .inl (k 0, 4, .inl (gx_zz 0))), ((am 12), .inl (k 3, 6, .inr (.inr (.inr (.inr gl))))), ((am 70), .inl (k 0, 16, .inl (gx_zz 0)))]) (isC := [0, 1]) (isR := [2, 3, 4, 5]) hP hD hS hA rfl rfl (by decide) (by decide) (gx_runV (na := 1) (As := [.int (-2)]) (rest := []) (ci := 5) C hl.1 hK (gx_subP (wc := ([(hm, .inr (5, [.ref (am 1), .ref (am 2), .ref (am 3), .ref (am 4), .ref (am 5), .ref (am 6), .ref (am 7), .ref (am 8), .int 0, .ref (am 9), .int 0, .ref (am 10), .int 0, .ref (am 11), .ref (am 12), .int 0, .int 0, .int 1, .null, .null, .int 0, .int 0, .int 0, .long 0, .int 0, .ref (am 13), .int 0, .int 0, .int 0, .ref (am 14), .ref (am 15), .ref (am 16), .ref (am 17), .int 0, .ref (am 18), .ref (am 19), .ref (am 20)])), ((am 9), .inl (k 0, 8, .inl (fun _ => 0)))] : va_W)) hP [0, 1] rfl) ((hD.sub (ws' := ([(hm, .inr (5, [.ref (am 1), .ref (am 2), .ref (am 3), .ref (am 4), .ref (am 5), .ref (am 6), .ref (am 7), .ref (am 8), .int 0, .ref (am 9), .int 0, .ref (am 10), .int 0, .ref (am 11), .ref (am 12), .int 0, .int 0, .int 1, .null, .null, .int 0, .int 0, .int 0, .long 0, .int 0, .ref (am 13), .int 0, .int 0, .int 0, .ref (am 14), .ref (am 15), .ref (am 16), .ref (am 17), .int 0, .ref (am 18), .ref (am 19), .ref (am 20)])), ((am 9), .inl (k 0, 8, .inl (fun _ => 0)))] : va_W)) [0, 1] (by decide) rfl).weaken (fun _ _ _ _ => trivial)) (m_refuse2 l D k hm am .null .null 0 _) gV_RX7_95 (by decide +kernel) rfl rfl ⟨Nat.le_of_ble_eq_true rfl, Nat.le_of_ble_eq_true rfl⟩ rfl rfl rfl rfl (Nat.le_of_ble_eq_true rfl) dX7_one_11 ⟨Nat.le_of_ble_eq_true rfl, Nat.le_of_ble_eq_true rfl⟩) (fun r_12 u_10 H locs h_11 hP hD hS => ?_)
    have h_11 : r_12 = -2 := h_11
    have hP : va_P D gx_cl [((am 11), .inl (k 3, 6, .inr (.inr (.inr (.inr go))))), ((am 60), .inl (k 0, 4, .inl (gx_zz 0))), ((am 12), .inl (k 3, 6, .inr (.inr (.inr (.inr gl))))), ((am 70), .inl (k 0, 16, .inl (gx_zz 0)))] H := hP
    have hD : va_D A [((am 11), .inl (k 3, 6, .inr (.inr (.inr (.inr go))))), ((am 60), .inl (k 0, 4, .inl (gx_zz 0))), ((am 12), .inl (k 3, 6, .inr (.inr (.inr (.inr gl))))), ((am 70), .inl (k 0, 16, .inl (gx_zz 0)))] := hD
    have eh_11 := h_11
    subst eh_11
    exact gx_retI C (u := ()) gx_nil gx_noneD hS (by simp [gs_one, c_1]) dX7_one_14
set_option maxHeartbeats 4000000 in
set_option maxRecDepth 100000 in
theorem m_shut_pub (l : Launch) (D : va_G) (k : Nat → ClassId) (hm : Nat) (am : Nat → Nat) (rv : Int32) (zv : Int32) (sz : Nat) : Met l yX7_shut (.code yX7_shut cX7_shut 4 (some .int) :: gx_T) ({ frames := 2, cells := 0, slots := 0, locals := 47 }) (gx_Pre D k [.ref hm, .int rv, .int zv] ([(hm, .inr (5, [.ref (am 1), .ref (am 2), .ref (am 3), .ref (am 4), .ref (am 5), .ref (am 6), .ref (am 7), .ref (am 8), .int 0, .ref (am 9), .int 0, .ref (am 10), .int 0, .ref (am 11), .ref (am 12), .int 0, .int 0, .int 1, .null, .null, .int 0, .int 0, .int 0, .long 0, .int 0, .ref (am 13), .int 0, .int 0, .int 0, .ref (am 14), .ref (am 15), .ref (am 16), .ref (am 17), .int 0, .ref (am 18), .ref (am 19), .ref (am 20)])), ((am 9), .inl (k 0, 8, .inl (fun _ => 0)))]) sz) (gx_Qi D (fun (r : Int32) (u : Unit) => r = -2) (fun (u : Unit) => ([] : va_W)) (va_A ([(hm, .inr (5, [.ref (am 1), .ref (am 2), .ref (am 3), .ref (am 4), .ref (am 5), .ref (am 6), .ref (am 7), .ref (am 8), .int 0, .ref (am 9), .int 0, .ref (am 10), .int 0, .ref (am 11), .ref (am 12), .int 0, .int 0, .int 1, .null, .null, .int 0, .int 0, .int 0, .long 0, .int 0, .ref (am 13), .int 0, .int 0, .int 0, .ref (am 14), .ref (am 15), .ref (am 16), .ref (am 17), .int 0, .ref (am 18), .ref (am 19), .ref (am 20)])), ((am 9), .inl (k 0, 8, .inl (fun _ => 0)))]) sz)) 0 0 (va_A ([(hm, .inr (5, [.ref (am 1), .ref (am 2), .ref (am 3), .ref (am 4), .ref (am 5), .ref (am 6), .ref (am 7), .ref (am 8), .int 0, .ref (am 9), .int 0, .ref (am 10), .int 0, .ref (am 11), .ref (am 12), .int 0, .int 0, .int 1, .null, .null, .int 0, .int 0, .int 0, .long 0, .int 0, .ref (am 13), .int 0, .int 0, .int 0, .ref (am 14), .ref (am 15), .ref (am 16), .ref (am 17), .int 0, .ref (am 18), .ref (am 19), .ref (am 20)])), ((am 9), .inl (k 0, 8, .inl (fun _ => 0)))]) sz) := by
  refine gx_metE (Qc := fun A => gx_Qi D (fun (r : Int32) (u : Unit) => r = -2) (fun (u : Unit) => ([] : va_W)) A) (y := yX7_shut) (cc := cX7_shut) (n := 4) (ret := (some .int)) (av := [.ref hm, .int rv, .int zv]) (by decide) (Nat.le_of_ble_eq_true rfl) ?_
  intro p e s m below meth c A ls C hA hP hD hK hS hl
  obtain ⟨hx, hb, hr, hml, hown, hT, hlk, hin⟩ := id C
  have hown : s.vm.findClass RX7 = some m.cls := hown
  have hl : lv_has ls 4 [(0, .ref hm), (1, .int rv), (2, .int zv)] := hl
  refine lv_aload_n hx hb dX7_shut_0 rfl (lv_at hl 0 rfl) ?_
  refine lv_iload_n hx hb dX7_shut_1 rfl (lv_at hl 1 rfl) ?_
  refine lv_i2l (v := (rv).toInt64) hx hb dX7_shut_2 (rfl) ?_
  refine gx_pi hP hS (gx_runV (na := 1) (As := [.long ((rv).toInt64)]) (rest := []) (ci := 5) C hl.1 hK (gx_subP (wc := ([(hm, .inr (5, [.ref (am 1), .ref (am 2), .ref (am 3), .ref (am 4), .ref (am 5), .ref (am 6), .ref (am 7), .ref (am 8), .int 0, .ref (am 9), .int 0, .ref (am 10), .int 0, .ref (am 11), .ref (am 12), .int 0, .int 0, .int 1, .null, .null, .int 0, .int 0, .int 0, .long 0, .int 0, .ref (am 13), .int 0, .int 0, .int 0, .ref (am 14), .ref (am 15), .ref (am 16), .ref (am 17), .int 0, .ref (am 18), .ref (am 19), .ref (am 20)]))] : va_W)) hP [0] rfl) ((hD.sub (ws' := ([(hm, .inr (5, [.ref (am 1), .ref (am 2), .ref (am 3), .ref (am 4), .ref (am 5), .ref (am 6), .ref (am 7), .ref (am 8), .int 0, .ref (am 9), .int 0, .ref (am 10), .int 0, .ref (am 11), .ref (am 12), .int 0, .int 0, .int 1, .null, .null, .int 0, .int 0, .int 0, .long 0, .int 0, .ref (am 13), .int 0, .int 0, .int 0, .ref (am 14), .ref (am 15), .ref (am 16), .ref (am 17), .int 0, .ref (am 18), .ref (am 19), .ref (am 20)]))] : va_W)) [0] (by decide) rfl).weaken (fun _ _ _ _ => trivial)) (m_isRoad l D k hm am rv _) gV_RX7_131 (by decide +kernel) rfl rfl ⟨Nat.le_of_ble_eq_true rfl, Nat.le_of_ble_eq_true rfl⟩ rfl rfl rfl rfl (Nat.le_of_ble_eq_true rfl) dX7_shut_3 ⟨Nat.le_of_ble_eq_true rfl, Nat.le_of_ble_eq_true rfl⟩) (fun r_2 H locs c_1 hP hS => ?_)
  have c_1 : r_2 = 0 := c_1
  subst c_1
  refine lv_if_ne (tgt := 16) hx hb dX7_shut_6 (by decide) (fun c_3 => absurd (by decide) c_3) (fun c_3 => ?_)
  refine lv_aload_n hx hb dX7_shut_9 rfl (lv_at hl 0 rfl) ?_
  refine lv_bipush (v := (-2)) hx hb dX7_shut_10 (by decide) ?_
  refine gx_ei (wc := ([(hm, .inr (5, [.ref (am 1), .ref (am 2), .ref (am 3), .ref (am 4), .ref (am 5), .ref (am 6), .ref (am 7), .ref (am 8), .int 0, .ref (am 9), .int 0, .ref (am 10), .int 0, .ref (am 11), .ref (am 12), .int 0, .int 0, .int 1, .null, .null, .int 0, .int 0, .int 0, .long 0, .int 0, .ref (am 13), .int 0, .int 0, .int 0, .ref (am 14), .ref (am 15), .ref (am 16), .ref (am 17), .int 0, .ref (am 18), .ref (am 19), .ref (am 20)])), ((am 9), .inl (k 0, 8, .inl (fun _ => 0)))] : va_W)) (wr := []) (isC := [0, 1]) (isR := []) hP hD hS hA rfl rfl (by decide) (by decide) (gx_runV (na := 1) (As := [.int (-2)]) (rest := []) (ci := 5) C hl.1 hK (gx_subP (wc := ([(hm, .inr (5, [.ref (am 1), .ref (am 2), .ref (am 3), .ref (am 4), .ref (am 5), .ref (am 6), .ref (am 7), .ref (am 8), .int 0, .ref (am 9), .int 0, .ref (am 10), .int 0, .ref (am 11), .ref (am 12), .int 0, .int 0, .int 1, .null, .null, .int 0, .int 0, .int 0, .long 0, .int 0, .ref (am 13), .int 0, .int 0, .int 0, .ref (am 14), .ref (am 15), .ref (am 16), .ref (am 17), .int 0, .ref (am 18), .ref (am 19), .ref (am 20)])), ((am 9), .inl (k 0, 8, .inl (fun _ => 0)))] : va_W)) hP [0, 1] rfl) ((hD.sub (ws' := ([(hm, .inr (5, [.ref (am 1), .ref (am 2), .ref (am 3), .ref (am 4), .ref (am 5), .ref (am 6), .ref (am 7), .ref (am 8), .int 0, .ref (am 9), .int 0, .ref (am 10), .int 0, .ref (am 11), .ref (am 12), .int 0, .int 0, .int 1, .null, .null, .int 0, .int 0, .int 0, .long 0, .int 0, .ref (am 13), .int 0, .int 0, .int 0, .ref (am 14), .ref (am 15), .ref (am 16), .ref (am 17), .int 0, .ref (am 18), .ref (am 19), .ref (am 20)])), ((am 9), .inl (k 0, 8, .inl (fun _ => 0)))] : va_W)) [0, 1] (by decide) rfl).weaken (fun _ _ _ _ => trivial)) (m_refuse2 l D k hm am .null .null 0 _) gV_RX7_95 (by decide +kernel) rfl rfl ⟨Nat.le_of_ble_eq_true rfl, Nat.le_of_ble_eq_true rfl⟩ rfl rfl rfl rfl (Nat.le_of_ble_eq_true rfl) dX7_shut_12 ⟨Nat.le_of_ble_eq_true rfl, Nat.le_of_ble_eq_true rfl⟩) (fun r_6 u_4 H locs h_5 hP hD hS => ?_)
  have h_5 : r_6 = -2 := h_5
  have hP : va_P D gx_cl [] H := hP
  have hD : va_D A [] := hD
  have eh_5 := h_5
  subst eh_5
  exact gx_retI C (u := ()) gx_nil gx_noneD hS (rfl) dX7_shut_15
set_option maxHeartbeats 4000000 in
set_option maxRecDepth 100000 in
theorem m_anew_pub (l : Launch) (D : va_G) (k : Nat → ClassId) (hm : Nat) (am : Nat → Nat) (nv : Int32) (sz : Nat) : Met l yX7_anew (.code yX7_anew cX7_anew 3 (some .int) :: gx_T) ({ frames := 1, cells := 0, slots := 0, locals := 25 }) (gx_Pre D k [.ref hm, .int nv] ([(hm, .inr (5, [.ref (am 1), .ref (am 2), .ref (am 3), .ref (am 4), .ref (am 5), .ref (am 6), .ref (am 7), .ref (am 8), .int 0, .ref (am 9), .int 0, .ref (am 10), .int 0, .ref (am 11), .ref (am 12), .int 0, .int 0, .int 1, .null, .null, .int 0, .int 0, .int 0, .long 0, .int 0, .ref (am 13), .int 0, .int 0, .int 0, .ref (am 14), .ref (am 15), .ref (am 16), .ref (am 17), .int 0, .ref (am 18), .ref (am 19), .ref (am 20)])), ((am 9), .inl (k 0, 8, .inl (fun _ => 0)))]) sz) (gx_Qi D (fun (r : Int32) (u : Unit) => r = (gs_anew nv)) (fun (u : Unit) => ([] : va_W)) (va_A ([(hm, .inr (5, [.ref (am 1), .ref (am 2), .ref (am 3), .ref (am 4), .ref (am 5), .ref (am 6), .ref (am 7), .ref (am 8), .int 0, .ref (am 9), .int 0, .ref (am 10), .int 0, .ref (am 11), .ref (am 12), .int 0, .int 0, .int 1, .null, .null, .int 0, .int 0, .int 0, .long 0, .int 0, .ref (am 13), .int 0, .int 0, .int 0, .ref (am 14), .ref (am 15), .ref (am 16), .ref (am 17), .int 0, .ref (am 18), .ref (am 19), .ref (am 20)])), ((am 9), .inl (k 0, 8, .inl (fun _ => 0)))]) sz)) 0 0 (va_A ([(hm, .inr (5, [.ref (am 1), .ref (am 2), .ref (am 3), .ref (am 4), .ref (am 5), .ref (am 6), .ref (am 7), .ref (am 8), .int 0, .ref (am 9), .int 0, .ref (am 10), .int 0, .ref (am 11), .ref (am 12), .int 0, .int 0, .int 1, .null, .null, .int 0, .int 0, .int 0, .long 0, .int 0, .ref (am 13), .int 0, .int 0, .int 0, .ref (am 14), .ref (am 15), .ref (am 16), .ref (am 17), .int 0, .ref (am 18), .ref (am 19), .ref (am 20)])), ((am 9), .inl (k 0, 8, .inl (fun _ => 0)))]) sz) := by
  refine gx_metE (Qc := fun A => gx_Qi D (fun (r : Int32) (u : Unit) => r = (gs_anew nv)) (fun (u : Unit) => ([] : va_W)) A) (y := yX7_anew) (cc := cX7_anew) (n := 3) (ret := (some .int)) (av := [.ref hm, .int nv]) (by decide) (Nat.le_of_ble_eq_true rfl) ?_
  intro p e s m below meth c A ls C hA hP hD hK hS hl
  obtain ⟨hx, hb, hr, hml, hown, hT, hlk, hin⟩ := id C
  have hown : s.vm.findClass RX7 = some m.cls := hown
  have hl : lv_has ls 3 [(0, .ref hm), (1, .int nv)] := hl
  refine lv_iload_n hx hb dX7_anew_0 rfl (lv_at hl 1 rfl) ?_
  refine lv_i2l (v := (nv).toInt64) hx hb dX7_anew_1 (rfl) ?_
  refine lv_lconst (v := 0) hx hb dX7_anew_2 (by decide) ?_
  refine lv_ldc2 (v := 99) hx hb hown (hT _ wd_1084) dX7_anew_3 ?_
  refine gx_pi hP hS (gx_runS (na := 3) (As := [.long ((nv).toInt64), .long 0, .long 99]) (rest := []) C hl.1 hK (gx_subP (wc := ([] : va_W)) hP [] rfl) ((hD.sub (ws' := ([] : va_W)) [] (by decide) rfl).weaken (fun _ _ _ _ => trivial)) (m_in l D k nv 0 99 0 99 (by decide) (by decide) _) gS_RX7_82 (by decide +kernel) rfl rfl ⟨Nat.le_of_ble_eq_true rfl, Nat.le_of_ble_eq_true rfl⟩ rfl rfl (Nat.le_of_ble_eq_true rfl) dX7_anew_6 ⟨Nat.le_of_ble_eq_true rfl, Nat.le_of_ble_eq_true rfl⟩) (fun r_2 H locs pc_1 hP hS => ?_)
  have oc_1 : r_2 = 1 ∧ gx_b nv 0 99 = true ∨ r_2 = 0 ∧ gx_b nv 0 99 = false := pc_1
  clear pc_1
  rcases oc_1 with ⟨rfl, c_1⟩ | ⟨rfl, c_1⟩
  · refine lv_if_ne (tgt := 19) hx hb dX7_anew_9 (by decide) (fun c_3 => ?_) (fun c_3 => absurd c_3 (by decide))
    refine lv_aload_n hx hb dX7_anew_19 rfl (lv_at hl 0 rfl) ?_
    refine va_get (D := D) (ci := 5) (v := .int 0) (C := RX7) (T := TX7) (N := 37) hx hb hT iw_TX7 hown hK.1 hP 0 rfl rfl 16 (by decide) (hT _ wd_946) (fun _ h9 => h9) rfl dX7_anew_20 ?_
    refine lv_istore_n (lv' := [(2, .int 0), (0, .ref hm), (1, .int nv)]) hx hb dX7_anew_23 rfl hl (by decide) rfl (fun ls hl => ?_)
    refine lv_aload_n hx hb dX7_anew_24 rfl (lv_at hl 1 rfl) ?_
    refine lv_iload_n hx hb dX7_anew_25 rfl (lv_at hl 2 rfl) ?_
    refine va_put (D := D) (ci := 5) (v := .int nv) (ty := .int) (C := RX7) (T := TX7) (N := 37) hx hb hT iw_TX7 tyX7 tyX7_ok nmX7 hown hK.1 hP hD hS 0 rfl rfl 16 (by decide) (hT _ wd_946) (fun _ h9 => h9) rfl (by decide +kernel) rfl rfl (Nat.le_of_ble_eq_true rfl) dX7_anew_26 (fun H locs hP hD hS => ?_)
    have hP : va_P D gx_cl [(hm, .inr (5, [.ref (am 1), .ref (am 2), .ref (am 3), .ref (am 4), .ref (am 5), .ref (am 6), .ref (am 7), .ref (am 8), .int 0, .ref (am 9), .int 0, .ref (am 10), .int 0, .ref (am 11), .ref (am 12), .int 0, .int nv, .int 1, .null, .null, .int 0, .int 0, .int 0, .long 0, .int 0, .ref (am 13), .int 0, .int 0, .int 0, .ref (am 14), .ref (am 15), .ref (am 16), .ref (am 17), .int 0, .ref (am 18), .ref (am 19), .ref (am 20)])), ((am 9), .inl (k 0, 8, .inl (fun _ => 0)))] H := hP
    have hD : va_D A [(hm, .inr (5, [.ref (am 1), .ref (am 2), .ref (am 3), .ref (am 4), .ref (am 5), .ref (am 6), .ref (am 7), .ref (am 8), .int 0, .ref (am 9), .int 0, .ref (am 10), .int 0, .ref (am 11), .ref (am 12), .int 0, .int nv, .int 1, .null, .null, .int 0, .int 0, .int 0, .long 0, .int 0, .ref (am 13), .int 0, .int 0, .int 0, .ref (am 14), .ref (am 15), .ref (am 16), .ref (am 17), .int 0, .ref (am 18), .ref (am 19), .ref (am 20)])), ((am 9), .inl (k 0, 8, .inl (fun _ => 0)))] := hD
    refine lv_iload_n hx hb dX7_anew_29 rfl (lv_at hl 0 rfl) ?_
    exact gx_retI C (u := ()) gx_nil gx_noneD hS (by simp [gs_anew, c_1]) dX7_anew_30
  · refine lv_if_ne (tgt := 19) hx hb dX7_anew_9 (by decide) (fun c_4 => absurd (by decide) c_4) (fun c_4 => ?_)
    refine lv_aload_n hx hb dX7_anew_12 rfl (lv_at hl 0 rfl) ?_
    refine lv_bipush (v := (-2)) hx hb dX7_anew_13 (by decide) ?_
    refine gx_ei (wc := ([(hm, .inr (5, [.ref (am 1), .ref (am 2), .ref (am 3), .ref (am 4), .ref (am 5), .ref (am 6), .ref (am 7), .ref (am 8), .int 0, .ref (am 9), .int 0, .ref (am 10), .int 0, .ref (am 11), .ref (am 12), .int 0, .int 0, .int 1, .null, .null, .int 0, .int 0, .int 0, .long 0, .int 0, .ref (am 13), .int 0, .int 0, .int 0, .ref (am 14), .ref (am 15), .ref (am 16), .ref (am 17), .int 0, .ref (am 18), .ref (am 19), .ref (am 20)])), ((am 9), .inl (k 0, 8, .inl (fun _ => 0)))] : va_W)) (wr := []) (isC := [0, 1]) (isR := []) hP hD hS hA rfl rfl (by decide) (by decide) (gx_runV (na := 1) (As := [.int (-2)]) (rest := []) (ci := 5) C hl.1 hK (gx_subP (wc := ([(hm, .inr (5, [.ref (am 1), .ref (am 2), .ref (am 3), .ref (am 4), .ref (am 5), .ref (am 6), .ref (am 7), .ref (am 8), .int 0, .ref (am 9), .int 0, .ref (am 10), .int 0, .ref (am 11), .ref (am 12), .int 0, .int 0, .int 1, .null, .null, .int 0, .int 0, .int 0, .long 0, .int 0, .ref (am 13), .int 0, .int 0, .int 0, .ref (am 14), .ref (am 15), .ref (am 16), .ref (am 17), .int 0, .ref (am 18), .ref (am 19), .ref (am 20)])), ((am 9), .inl (k 0, 8, .inl (fun _ => 0)))] : va_W)) hP [0, 1] rfl) ((hD.sub (ws' := ([(hm, .inr (5, [.ref (am 1), .ref (am 2), .ref (am 3), .ref (am 4), .ref (am 5), .ref (am 6), .ref (am 7), .ref (am 8), .int 0, .ref (am 9), .int 0, .ref (am 10), .int 0, .ref (am 11), .ref (am 12), .int 0, .int 0, .int 1, .null, .null, .int 0, .int 0, .int 0, .long 0, .int 0, .ref (am 13), .int 0, .int 0, .int 0, .ref (am 14), .ref (am 15), .ref (am 16), .ref (am 17), .int 0, .ref (am 18), .ref (am 19), .ref (am 20)])), ((am 9), .inl (k 0, 8, .inl (fun _ => 0)))] : va_W)) [0, 1] (by decide) rfl).weaken (fun _ _ _ _ => trivial)) (m_refuse2 l D k hm am .null .null 0 _) gV_RX7_95 (by decide +kernel) rfl rfl ⟨Nat.le_of_ble_eq_true rfl, Nat.le_of_ble_eq_true rfl⟩ rfl rfl rfl rfl (Nat.le_of_ble_eq_true rfl) dX7_anew_15 ⟨Nat.le_of_ble_eq_true rfl, Nat.le_of_ble_eq_true rfl⟩) (fun r_7 u_5 H locs h_6 hP hD hS => ?_)
    have h_6 : r_7 = -2 := h_6
    have hP : va_P D gx_cl [] H := hP
    have hD : va_D A [] := hD
    have eh_6 := h_6
    subst eh_6
    exact gx_retI C (u := ()) gx_nil gx_noneD hS (by simp [gs_anew, c_1]) dX7_anew_18
set_option maxHeartbeats 4000000 in
set_option maxRecDepth 100000 in
theorem m_feed_pub (l : Launch) (D : va_G) (k : Nat → ClassId) (hm : Nat) (am : Nat → Nat) (vv : Int32) (nv : Int32) (sz : Nat) : Met l yX7_feed (.code yX7_feed cX7_feed 4 (some .int) :: gx_T) ({ frames := 1, cells := 0, slots := 0, locals := 25 }) (gx_Pre D k [.ref hm, .int vv, .int nv] ([(hm, .inr (5, [.ref (am 1), .ref (am 2), .ref (am 3), .ref (am 4), .ref (am 5), .ref (am 6), .ref (am 7), .ref (am 8), .int 0, .ref (am 9), .int 0, .ref (am 10), .int 0, .ref (am 11), .ref (am 12), .int 0, .int 0, .int 1, .null, .null, .int 0, .int 0, .int 0, .long 0, .int 0, .ref (am 13), .int 0, .int 0, .int 0, .ref (am 14), .ref (am 15), .ref (am 16), .ref (am 17), .int 0, .ref (am 18), .ref (am 19), .ref (am 20)])), ((am 9), .inl (k 0, 8, .inl (fun _ => 0))), ((am 8), .inl (k 0, 250, .inl (fun _ => 0)))]) sz) (gx_Qi D (fun (r : Int32) (u : Unit) => r = (gs_feed nv)) (fun (u : Unit) => ([] : va_W)) (va_A ([(hm, .inr (5, [.ref (am 1), .ref (am 2), .ref (am 3), .ref (am 4), .ref (am 5), .ref (am 6), .ref (am 7), .ref (am 8), .int 0, .ref (am 9), .int 0, .ref (am 10), .int 0, .ref (am 11), .ref (am 12), .int 0, .int 0, .int 1, .null, .null, .int 0, .int 0, .int 0, .long 0, .int 0, .ref (am 13), .int 0, .int 0, .int 0, .ref (am 14), .ref (am 15), .ref (am 16), .ref (am 17), .int 0, .ref (am 18), .ref (am 19), .ref (am 20)])), ((am 9), .inl (k 0, 8, .inl (fun _ => 0))), ((am 8), .inl (k 0, 250, .inl (fun _ => 0)))]) sz)) 0 0 (va_A ([(hm, .inr (5, [.ref (am 1), .ref (am 2), .ref (am 3), .ref (am 4), .ref (am 5), .ref (am 6), .ref (am 7), .ref (am 8), .int 0, .ref (am 9), .int 0, .ref (am 10), .int 0, .ref (am 11), .ref (am 12), .int 0, .int 0, .int 1, .null, .null, .int 0, .int 0, .int 0, .long 0, .int 0, .ref (am 13), .int 0, .int 0, .int 0, .ref (am 14), .ref (am 15), .ref (am 16), .ref (am 17), .int 0, .ref (am 18), .ref (am 19), .ref (am 20)])), ((am 9), .inl (k 0, 8, .inl (fun _ => 0))), ((am 8), .inl (k 0, 250, .inl (fun _ => 0)))]) sz) := by
  refine gx_metE (Qc := fun A => gx_Qi D (fun (r : Int32) (u : Unit) => r = (gs_feed nv)) (fun (u : Unit) => ([] : va_W)) A) (y := yX7_feed) (cc := cX7_feed) (n := 4) (ret := (some .int)) (av := [.ref hm, .int vv, .int nv]) (by decide) (Nat.le_of_ble_eq_true rfl) ?_
  intro p e s m below meth c A ls C hA hP hD hK hS hl
  obtain ⟨hx, hb, hr, hml, hown, hT, hlk, hin⟩ := id C
  have hown : s.vm.findClass RX7 = some m.cls := hown
  have hl : lv_has ls 4 [(0, .ref hm), (1, .int vv), (2, .int nv)] := hl
  refine lv_iload_n hx hb dX7_feed_0 rfl (lv_at hl 2 rfl) ?_
  refine lv_i2l (v := (nv).toInt64) hx hb dX7_feed_1 (rfl) ?_
  refine lv_lconst (v := 1) hx hb dX7_feed_2 (by decide) ?_
  refine lv_ldc2 (v := 4) hx hb hown (hT _ wd_1050) dX7_feed_3 ?_
  refine gx_pi hP hS (gx_runS (na := 3) (As := [.long ((nv).toInt64), .long 1, .long 4]) (rest := []) C hl.1 hK (gx_subP (wc := ([] : va_W)) hP [] rfl) ((hD.sub (ws' := ([] : va_W)) [] (by decide) rfl).weaken (fun _ _ _ _ => trivial)) (m_in l D k nv 1 4 1 4 (by decide) (by decide) _) gS_RX7_82 (by decide +kernel) rfl rfl ⟨Nat.le_of_ble_eq_true rfl, Nat.le_of_ble_eq_true rfl⟩ rfl rfl (Nat.le_of_ble_eq_true rfl) dX7_feed_6 ⟨Nat.le_of_ble_eq_true rfl, Nat.le_of_ble_eq_true rfl⟩) (fun r_2 H locs pc_1 hP hS => ?_)
  have oc_1 : r_2 = 1 ∧ gx_b nv 1 4 = true ∨ r_2 = 0 ∧ gx_b nv 1 4 = false := pc_1
  clear pc_1
  rcases oc_1 with ⟨rfl, c_1⟩ | ⟨rfl, c_1⟩
  · rcases gx_4 c_1 with rfl | rfl | rfl | rfl
    · refine lv_if_ne (tgt := 19) hx hb dX7_feed_9 (by decide) (fun c_3 => ?_) (fun c_3 => absurd c_3 (by decide))
      refine lv_iload_n hx hb dX7_feed_19 rfl (lv_at hl 2 rfl) ?_
      refine lv_sipush (v := 250) hx hb dX7_feed_20 (by decide) ?_
      refine lv_aload_n hx hb dX7_feed_23 rfl (lv_at hl 0 rfl) ?_
      refine va_get (D := D) (ci := 5) (v := .int 0) (C := RX7) (T := TX7) (N := 37) hx hb hT iw_TX7 hown hK.1 hP 0 rfl rfl 8 (by decide) (hT _ wd_938) (fun _ h9 => h9) rfl dX7_feed_24 ?_
      refine lv_isub hx hb dX7_feed_27 ?_
      refine gx_cst (v := 250) (by decide) ?_
      refine lv_icmp_le (tgt := 38) hx hb dX7_feed_28 (by decide) (fun c_4 => ?_) (fun c_4 => absurd (by decide) c_4)
      refine lv_iload_n hx hb dX7_feed_38 rfl (lv_at hl 2 rfl) ?_
      refine lv_iconst (v := 1) hx hb dX7_feed_39 (by decide) ?_
      refine lv_isub hx hb dX7_feed_40 ?_
      refine gx_cst (v := 0) (by decide) ?_
      refine lv_istore_n (lv' := [(3, .int 0), (0, .ref hm), (1, .int vv), (2, .int 1)]) hx hb dX7_feed_41 rfl hl (by decide) rfl (fun ls hl => ?_)
      refine lv_iload_n hx hb dX7_feed_42 rfl (lv_at hl 0 rfl) ?_
      refine lv_if_lt (tgt := 78) hx hb dX7_feed_43 (by decide) (fun c_5 => absurd c_5 (by decide)) (fun c_5 => ?_)
      refine lv_aload_n hx hb dX7_feed_46 rfl (lv_at hl 1 rfl) ?_
      refine va_get (D := D) (ci := 5) (v := .ref (am 8)) (C := RX7) (T := TX7) (N := 37) hx hb hT iw_TX7 hown hK.1 hP 0 rfl rfl 7 (by decide) (hT _ wd_937) (fun _ h9 => h9) rfl dX7_feed_47 ?_
      refine lv_aload_n hx hb dX7_feed_50 rfl (lv_at hl 1 rfl) ?_
      refine lv_dup hx hb dX7_feed_51 rfl ?_
      refine va_get (D := D) (ci := 5) (v := .int 0) (C := RX7) (T := TX7) (N := 37) hx hb hT iw_TX7 hown hK.1 hP 0 rfl rfl 8 (by decide) (hT _ wd_938) (fun _ h9 => h9) rfl dX7_feed_52 ?_
      refine lv_dup_x1 hx hb dX7_feed_55 rfl rfl ?_
      refine lv_iconst (v := 1) hx hb dX7_feed_56 (by decide) ?_
      refine lv_iadd hx hb dX7_feed_57 ?_
      refine gx_cst (v := 1) (by decide) ?_
      refine va_put (D := D) (ci := 5) (v := .int 1) (ty := .int) (C := RX7) (T := TX7) (N := 37) hx hb hT iw_TX7 tyX7 tyX7_ok nmX7 hown hK.1 hP hD hS 0 rfl rfl 8 (by decide) (hT _ wd_938) (fun _ h9 => h9) rfl (by decide +kernel) rfl rfl (Nat.le_of_ble_eq_true rfl) dX7_feed_58 (fun H locs hP hD hS => ?_)
      have hP : va_P D gx_cl [(hm, .inr (5, [.ref (am 1), .ref (am 2), .ref (am 3), .ref (am 4), .ref (am 5), .ref (am 6), .ref (am 7), .ref (am 8), .int 1, .ref (am 9), .int 0, .ref (am 10), .int 0, .ref (am 11), .ref (am 12), .int 0, .int 0, .int 1, .null, .null, .int 0, .int 0, .int 0, .long 0, .int 0, .ref (am 13), .int 0, .int 0, .int 0, .ref (am 14), .ref (am 15), .ref (am 16), .ref (am 17), .int 0, .ref (am 18), .ref (am 19), .ref (am 20)])), ((am 9), .inl (k 0, 8, .inl (fun _ => 0))), ((am 8), .inl (k 0, 250, .inl (fun _ => 0)))] H := hP
      have hD : va_D A [(hm, .inr (5, [.ref (am 1), .ref (am 2), .ref (am 3), .ref (am 4), .ref (am 5), .ref (am 6), .ref (am 7), .ref (am 8), .int 1, .ref (am 9), .int 0, .ref (am 10), .int 0, .ref (am 11), .ref (am 12), .int 0, .int 0, .int 1, .null, .null, .int 0, .int 0, .int 0, .long 0, .int 0, .ref (am 13), .int 0, .int 0, .int 0, .ref (am 14), .ref (am 15), .ref (am 16), .ref (am 17), .int 0, .ref (am 18), .ref (am 19), .ref (am 20)])), ((am 9), .inl (k 0, 8, .inl (fun _ => 0))), ((am 8), .inl (k 0, 250, .inl (fun _ => 0)))] := hD
      refine lv_iload_n hx hb dX7_feed_61 rfl (lv_at hl 2 rfl) ?_
      refine lv_bipush (v := 8) hx hb dX7_feed_62 (by decide) ?_
      refine lv_iload_n hx hb dX7_feed_64 rfl (lv_at hl 0 rfl) ?_
      refine lv_imul hx hb dX7_feed_65 ?_
      refine gx_cst (v := 0) (by decide) ?_
      refine lv_ishr hx hb dX7_feed_66 ?_
      refine lv_sipush (v := 255) hx hb dX7_feed_67 (by decide) ?_
      refine lv_iand hx hb dX7_feed_70 ?_
      refine va_iast hx hb hK.1 hP hD hS 2 0 rfl rfl (gx_vin rfl) dX7_feed_71 (fun H locs hP hD hS => ?_)
      obtain ⟨f_6, ef_6⟩ : ∃ f9, f9 = upd ((fun _ => 0) : Nat → Int32) (0 : Int32).toNatClampNeg (((vv >>> ((0 : Int32) &&& 31)) &&& (255 : Int32)) : Int32) := ⟨_, rfl⟩
      have hP : va_P D gx_cl [(hm, .inr (5, [.ref (am 1), .ref (am 2), .ref (am 3), .ref (am 4), .ref (am 5), .ref (am 6), .ref (am 7), .ref (am 8), .int 1, .ref (am 9), .int 0, .ref (am 10), .int 0, .ref (am 11), .ref (am 12), .int 0, .int 0, .int 1, .null, .null, .int 0, .int 0, .int 0, .long 0, .int 0, .ref (am 13), .int 0, .int 0, .int 0, .ref (am 14), .ref (am 15), .ref (am 16), .ref (am 17), .int 0, .ref (am 18), .ref (am 19), .ref (am 20)])), ((am 9), .inl (k 0, 8, .inl (fun _ => 0))), ((am 8), .inl (k 0, 250, .inl f_6))] H := by subst ef_6; exact hP
      have hD : va_D A [(hm, .inr (5, [.ref (am 1), .ref (am 2), .ref (am 3), .ref (am 4), .ref (am 5), .ref (am 6), .ref (am 7), .ref (am 8), .int 1, .ref (am 9), .int 0, .ref (am 10), .int 0, .ref (am 11), .ref (am 12), .int 0, .int 0, .int 1, .null, .null, .int 0, .int 0, .int 0, .long 0, .int 0, .ref (am 13), .int 0, .int 0, .int 0, .ref (am 14), .ref (am 15), .ref (am 16), .ref (am 17), .int 0, .ref (am 18), .ref (am 19), .ref (am 20)])), ((am 9), .inl (k 0, 8, .inl (fun _ => 0))), ((am 8), .inl (k 0, 250, .inl f_6))] := by subst ef_6; exact hD
      refine lv_iinc (v := (-1)) (lv' := [(3, .int (-1)), (0, .ref hm), (1, .int vv), (2, .int 1)]) hx hb dX7_feed_72 hl (k := 0) rfl (by decide) (by decide) rfl (fun ls hl => ?_)
      refine lv_goto (tgt := 42) hx hb dX7_feed_75 (by decide) ?_
      refine lv_iload_n hx hb dX7_feed_42 rfl (lv_at hl 0 rfl) ?_
      refine lv_if_lt (tgt := 78) hx hb dX7_feed_43 (by decide) (fun c_7 => ?_) (fun c_7 => absurd (by decide) c_7)
      refine lv_aload_n hx hb dX7_feed_78 rfl (lv_at hl 1 rfl) ?_
      refine va_get (D := D) (ci := 5) (v := .int 1) (C := RX7) (T := TX7) (N := 37) hx hb hT iw_TX7 hown hK.1 hP 0 rfl rfl 8 (by decide) (hT _ wd_938) (fun _ h9 => h9) rfl dX7_feed_79 ?_
      exact gx_retI C (u := ()) gx_nil gx_noneD hS (by decide) dX7_feed_82
    · refine lv_if_ne (tgt := 19) hx hb dX7_feed_9 (by decide) (fun c_8 => ?_) (fun c_8 => absurd c_8 (by decide))
      refine lv_iload_n hx hb dX7_feed_19 rfl (lv_at hl 2 rfl) ?_
      refine lv_sipush (v := 250) hx hb dX7_feed_20 (by decide) ?_
      refine lv_aload_n hx hb dX7_feed_23 rfl (lv_at hl 0 rfl) ?_
      refine va_get (D := D) (ci := 5) (v := .int 0) (C := RX7) (T := TX7) (N := 37) hx hb hT iw_TX7 hown hK.1 hP 0 rfl rfl 8 (by decide) (hT _ wd_938) (fun _ h9 => h9) rfl dX7_feed_24 ?_
      refine lv_isub hx hb dX7_feed_27 ?_
      refine gx_cst (v := 250) (by decide) ?_
      refine lv_icmp_le (tgt := 38) hx hb dX7_feed_28 (by decide) (fun c_9 => ?_) (fun c_9 => absurd (by decide) c_9)
      refine lv_iload_n hx hb dX7_feed_38 rfl (lv_at hl 2 rfl) ?_
      refine lv_iconst (v := 1) hx hb dX7_feed_39 (by decide) ?_
      refine lv_isub hx hb dX7_feed_40 ?_
      refine gx_cst (v := 1) (by decide) ?_
      refine lv_istore_n (lv' := [(3, .int 1), (0, .ref hm), (1, .int vv), (2, .int 2)]) hx hb dX7_feed_41 rfl hl (by decide) rfl (fun ls hl => ?_)
      refine lv_iload_n hx hb dX7_feed_42 rfl (lv_at hl 0 rfl) ?_
      refine lv_if_lt (tgt := 78) hx hb dX7_feed_43 (by decide) (fun c_10 => absurd c_10 (by decide)) (fun c_10 => ?_)
      refine lv_aload_n hx hb dX7_feed_46 rfl (lv_at hl 1 rfl) ?_
      refine va_get (D := D) (ci := 5) (v := .ref (am 8)) (C := RX7) (T := TX7) (N := 37) hx hb hT iw_TX7 hown hK.1 hP 0 rfl rfl 7 (by decide) (hT _ wd_937) (fun _ h9 => h9) rfl dX7_feed_47 ?_
      refine lv_aload_n hx hb dX7_feed_50 rfl (lv_at hl 1 rfl) ?_
      refine lv_dup hx hb dX7_feed_51 rfl ?_
      refine va_get (D := D) (ci := 5) (v := .int 0) (C := RX7) (T := TX7) (N := 37) hx hb hT iw_TX7 hown hK.1 hP 0 rfl rfl 8 (by decide) (hT _ wd_938) (fun _ h9 => h9) rfl dX7_feed_52 ?_
      refine lv_dup_x1 hx hb dX7_feed_55 rfl rfl ?_
      refine lv_iconst (v := 1) hx hb dX7_feed_56 (by decide) ?_
      refine lv_iadd hx hb dX7_feed_57 ?_
      refine gx_cst (v := 1) (by decide) ?_
      refine va_put (D := D) (ci := 5) (v := .int 1) (ty := .int) (C := RX7) (T := TX7) (N := 37) hx hb hT iw_TX7 tyX7 tyX7_ok nmX7 hown hK.1 hP hD hS 0 rfl rfl 8 (by decide) (hT _ wd_938) (fun _ h9 => h9) rfl (by decide +kernel) rfl rfl (Nat.le_of_ble_eq_true rfl) dX7_feed_58 (fun H locs hP hD hS => ?_)
      have hP : va_P D gx_cl [(hm, .inr (5, [.ref (am 1), .ref (am 2), .ref (am 3), .ref (am 4), .ref (am 5), .ref (am 6), .ref (am 7), .ref (am 8), .int 1, .ref (am 9), .int 0, .ref (am 10), .int 0, .ref (am 11), .ref (am 12), .int 0, .int 0, .int 1, .null, .null, .int 0, .int 0, .int 0, .long 0, .int 0, .ref (am 13), .int 0, .int 0, .int 0, .ref (am 14), .ref (am 15), .ref (am 16), .ref (am 17), .int 0, .ref (am 18), .ref (am 19), .ref (am 20)])), ((am 9), .inl (k 0, 8, .inl (fun _ => 0))), ((am 8), .inl (k 0, 250, .inl (fun _ => 0)))] H := hP
      have hD : va_D A [(hm, .inr (5, [.ref (am 1), .ref (am 2), .ref (am 3), .ref (am 4), .ref (am 5), .ref (am 6), .ref (am 7), .ref (am 8), .int 1, .ref (am 9), .int 0, .ref (am 10), .int 0, .ref (am 11), .ref (am 12), .int 0, .int 0, .int 1, .null, .null, .int 0, .int 0, .int 0, .long 0, .int 0, .ref (am 13), .int 0, .int 0, .int 0, .ref (am 14), .ref (am 15), .ref (am 16), .ref (am 17), .int 0, .ref (am 18), .ref (am 19), .ref (am 20)])), ((am 9), .inl (k 0, 8, .inl (fun _ => 0))), ((am 8), .inl (k 0, 250, .inl (fun _ => 0)))] := hD
      refine lv_iload_n hx hb dX7_feed_61 rfl (lv_at hl 2 rfl) ?_
      refine lv_bipush (v := 8) hx hb dX7_feed_62 (by decide) ?_
      refine lv_iload_n hx hb dX7_feed_64 rfl (lv_at hl 0 rfl) ?_
      refine lv_imul hx hb dX7_feed_65 ?_
      refine gx_cst (v := 8) (by decide) ?_
      refine lv_ishr hx hb dX7_feed_66 ?_
      refine lv_sipush (v := 255) hx hb dX7_feed_67 (by decide) ?_
      refine lv_iand hx hb dX7_feed_70 ?_
      refine va_iast hx hb hK.1 hP hD hS 2 0 rfl rfl (gx_vin rfl) dX7_feed_71 (fun H locs hP hD hS => ?_)
      obtain ⟨f_11, ef_11⟩ : ∃ f9, f9 = upd ((fun _ => 0) : Nat → Int32) (0 : Int32).toNatClampNeg (((vv >>> ((8 : Int32) &&& 31)) &&& (255 : Int32)) : Int32) := ⟨_, rfl⟩
      have hP : va_P D gx_cl [(hm, .inr (5, [.ref (am 1), .ref (am 2), .ref (am 3), .ref (am 4), .ref (am 5), .ref (am 6), .ref (am 7), .ref (am 8), .int 1, .ref (am 9), .int 0, .ref (am 10), .int 0, .ref (am 11), .ref (am 12), .int 0, .int 0, .int 1, .null, .null, .int 0, .int 0, .int 0, .long 0, .int 0, .ref (am 13), .int 0, .int 0, .int 0, .ref (am 14), .ref (am 15), .ref (am 16), .ref (am 17), .int 0, .ref (am 18), .ref (am 19), .ref (am 20)])), ((am 9), .inl (k 0, 8, .inl (fun _ => 0))), ((am 8), .inl (k 0, 250, .inl f_11))] H := by subst ef_11; exact hP
      have hD : va_D A [(hm, .inr (5, [.ref (am 1), .ref (am 2), .ref (am 3), .ref (am 4), .ref (am 5), .ref (am 6), .ref (am 7), .ref (am 8), .int 1, .ref (am 9), .int 0, .ref (am 10), .int 0, .ref (am 11), .ref (am 12), .int 0, .int 0, .int 1, .null, .null, .int 0, .int 0, .int 0, .long 0, .int 0, .ref (am 13), .int 0, .int 0, .int 0, .ref (am 14), .ref (am 15), .ref (am 16), .ref (am 17), .int 0, .ref (am 18), .ref (am 19), .ref (am 20)])), ((am 9), .inl (k 0, 8, .inl (fun _ => 0))), ((am 8), .inl (k 0, 250, .inl f_11))] := by subst ef_11; exact hD
      refine lv_iinc (v := 0) (lv' := [(3, .int 0), (0, .ref hm), (1, .int vv), (2, .int 2)]) hx hb dX7_feed_72 hl (k := 0) rfl (by decide) (by decide) rfl (fun ls hl => ?_)
      refine lv_goto (tgt := 42) hx hb dX7_feed_75 (by decide) ?_
      refine lv_iload_n hx hb dX7_feed_42 rfl (lv_at hl 0 rfl) ?_
      refine lv_if_lt (tgt := 78) hx hb dX7_feed_43 (by decide) (fun c_12 => absurd c_12 (by decide)) (fun c_12 => ?_)
      refine lv_aload_n hx hb dX7_feed_46 rfl (lv_at hl 1 rfl) ?_
      refine va_get (D := D) (ci := 5) (v := .ref (am 8)) (C := RX7) (T := TX7) (N := 37) hx hb hT iw_TX7 hown hK.1 hP 0 rfl rfl 7 (by decide) (hT _ wd_937) (fun _ h9 => h9) rfl dX7_feed_47 ?_
      refine lv_aload_n hx hb dX7_feed_50 rfl (lv_at hl 1 rfl) ?_
      refine lv_dup hx hb dX7_feed_51 rfl ?_
      refine va_get (D := D) (ci := 5) (v := .int 1) (C := RX7) (T := TX7) (N := 37) hx hb hT iw_TX7 hown hK.1 hP 0 rfl rfl 8 (by decide) (hT _ wd_938) (fun _ h9 => h9) rfl dX7_feed_52 ?_
      refine lv_dup_x1 hx hb dX7_feed_55 rfl rfl ?_
      refine lv_iconst (v := 1) hx hb dX7_feed_56 (by decide) ?_
      refine lv_iadd hx hb dX7_feed_57 ?_
      refine gx_cst (v := 2) (by decide) ?_
      refine va_put (D := D) (ci := 5) (v := .int 2) (ty := .int) (C := RX7) (T := TX7) (N := 37) hx hb hT iw_TX7 tyX7 tyX7_ok nmX7 hown hK.1 hP hD hS 0 rfl rfl 8 (by decide) (hT _ wd_938) (fun _ h9 => h9) rfl (by decide +kernel) rfl rfl (Nat.le_of_ble_eq_true rfl) dX7_feed_58 (fun H locs hP hD hS => ?_)
      have hP : va_P D gx_cl [(hm, .inr (5, [.ref (am 1), .ref (am 2), .ref (am 3), .ref (am 4), .ref (am 5), .ref (am 6), .ref (am 7), .ref (am 8), .int 2, .ref (am 9), .int 0, .ref (am 10), .int 0, .ref (am 11), .ref (am 12), .int 0, .int 0, .int 1, .null, .null, .int 0, .int 0, .int 0, .long 0, .int 0, .ref (am 13), .int 0, .int 0, .int 0, .ref (am 14), .ref (am 15), .ref (am 16), .ref (am 17), .int 0, .ref (am 18), .ref (am 19), .ref (am 20)])), ((am 9), .inl (k 0, 8, .inl (fun _ => 0))), ((am 8), .inl (k 0, 250, .inl f_11))] H := hP
      have hD : va_D A [(hm, .inr (5, [.ref (am 1), .ref (am 2), .ref (am 3), .ref (am 4), .ref (am 5), .ref (am 6), .ref (am 7), .ref (am 8), .int 2, .ref (am 9), .int 0, .ref (am 10), .int 0, .ref (am 11), .ref (am 12), .int 0, .int 0, .int 1, .null, .null, .int 0, .int 0, .int 0, .long 0, .int 0, .ref (am 13), .int 0, .int 0, .int 0, .ref (am 14), .ref (am 15), .ref (am 16), .ref (am 17), .int 0, .ref (am 18), .ref (am 19), .ref (am 20)])), ((am 9), .inl (k 0, 8, .inl (fun _ => 0))), ((am 8), .inl (k 0, 250, .inl f_11))] := hD
      refine lv_iload_n hx hb dX7_feed_61 rfl (lv_at hl 2 rfl) ?_
      refine lv_bipush (v := 8) hx hb dX7_feed_62 (by decide) ?_
      refine lv_iload_n hx hb dX7_feed_64 rfl (lv_at hl 0 rfl) ?_
      refine lv_imul hx hb dX7_feed_65 ?_
      refine gx_cst (v := 0) (by decide) ?_
      refine lv_ishr hx hb dX7_feed_66 ?_
      refine lv_sipush (v := 255) hx hb dX7_feed_67 (by decide) ?_
      refine lv_iand hx hb dX7_feed_70 ?_
      refine va_iast hx hb hK.1 hP hD hS 2 0 rfl rfl (gx_vin rfl) dX7_feed_71 (fun H locs hP hD hS => ?_)
      obtain ⟨f_13, ef_13⟩ : ∃ f9, f9 = upd f_11 (1 : Int32).toNatClampNeg (((vv >>> ((0 : Int32) &&& 31)) &&& (255 : Int32)) : Int32) := ⟨_, rfl⟩
      have hP : va_P D gx_cl [(hm, .inr (5, [.ref (am 1), .ref (am 2), .ref (am 3), .ref (am 4), .ref (am 5), .ref (am 6), .ref (am 7), .ref (am 8), .int 2, .ref (am 9), .int 0, .ref (am 10), .int 0, .ref (am 11), .ref (am 12), .int 0, .int 0, .int 1, .null, .null, .int 0, .int 0, .int 0, .long 0, .int 0, .ref (am 13), .int 0, .int 0, .int 0, .ref (am 14), .ref (am 15), .ref (am 16), .ref (am 17), .int 0, .ref (am 18), .ref (am 19), .ref (am 20)])), ((am 9), .inl (k 0, 8, .inl (fun _ => 0))), ((am 8), .inl (k 0, 250, .inl f_13))] H := by subst ef_13; exact hP
      have hD : va_D A [(hm, .inr (5, [.ref (am 1), .ref (am 2), .ref (am 3), .ref (am 4), .ref (am 5), .ref (am 6), .ref (am 7), .ref (am 8), .int 2, .ref (am 9), .int 0, .ref (am 10), .int 0, .ref (am 11), .ref (am 12), .int 0, .int 0, .int 1, .null, .null, .int 0, .int 0, .int 0, .long 0, .int 0, .ref (am 13), .int 0, .int 0, .int 0, .ref (am 14), .ref (am 15), .ref (am 16), .ref (am 17), .int 0, .ref (am 18), .ref (am 19), .ref (am 20)])), ((am 9), .inl (k 0, 8, .inl (fun _ => 0))), ((am 8), .inl (k 0, 250, .inl f_13))] := by subst ef_13; exact hD
      refine lv_iinc (v := (-1)) (lv' := [(3, .int (-1)), (0, .ref hm), (1, .int vv), (2, .int 2)]) hx hb dX7_feed_72 hl (k := 0) rfl (by decide) (by decide) rfl (fun ls hl => ?_)
      refine lv_goto (tgt := 42) hx hb dX7_feed_75 (by decide) ?_
      refine lv_iload_n hx hb dX7_feed_42 rfl (lv_at hl 0 rfl) ?_
      refine lv_if_lt (tgt := 78) hx hb dX7_feed_43 (by decide) (fun c_14 => ?_) (fun c_14 => absurd (by decide) c_14)
      refine lv_aload_n hx hb dX7_feed_78 rfl (lv_at hl 1 rfl) ?_
      refine va_get (D := D) (ci := 5) (v := .int 2) (C := RX7) (T := TX7) (N := 37) hx hb hT iw_TX7 hown hK.1 hP 0 rfl rfl 8 (by decide) (hT _ wd_938) (fun _ h9 => h9) rfl dX7_feed_79 ?_
      exact gx_retI C (u := ()) gx_nil gx_noneD hS (by decide) dX7_feed_82
    · refine lv_if_ne (tgt := 19) hx hb dX7_feed_9 (by decide) (fun c_15 => ?_) (fun c_15 => absurd c_15 (by decide))
      refine lv_iload_n hx hb dX7_feed_19 rfl (lv_at hl 2 rfl) ?_
      refine lv_sipush (v := 250) hx hb dX7_feed_20 (by decide) ?_
      refine lv_aload_n hx hb dX7_feed_23 rfl (lv_at hl 0 rfl) ?_
      refine va_get (D := D) (ci := 5) (v := .int 0) (C := RX7) (T := TX7) (N := 37) hx hb hT iw_TX7 hown hK.1 hP 0 rfl rfl 8 (by decide) (hT _ wd_938) (fun _ h9 => h9) rfl dX7_feed_24 ?_
      refine lv_isub hx hb dX7_feed_27 ?_
      refine gx_cst (v := 250) (by decide) ?_
      refine lv_icmp_le (tgt := 38) hx hb dX7_feed_28 (by decide) (fun c_16 => ?_) (fun c_16 => absurd (by decide) c_16)
      refine lv_iload_n hx hb dX7_feed_38 rfl (lv_at hl 2 rfl) ?_
      refine lv_iconst (v := 1) hx hb dX7_feed_39 (by decide) ?_
      refine lv_isub hx hb dX7_feed_40 ?_
      refine gx_cst (v := 2) (by decide) ?_
      refine lv_istore_n (lv' := [(3, .int 2), (0, .ref hm), (1, .int vv), (2, .int 3)]) hx hb dX7_feed_41 rfl hl (by decide) rfl (fun ls hl => ?_)
      refine lv_iload_n hx hb dX7_feed_42 rfl (lv_at hl 0 rfl) ?_
      refine lv_if_lt (tgt := 78) hx hb dX7_feed_43 (by decide) (fun c_17 => absurd c_17 (by decide)) (fun c_17 => ?_)
      refine lv_aload_n hx hb dX7_feed_46 rfl (lv_at hl 1 rfl) ?_
      refine va_get (D := D) (ci := 5) (v := .ref (am 8)) (C := RX7) (T := TX7) (N := 37) hx hb hT iw_TX7 hown hK.1 hP 0 rfl rfl 7 (by decide) (hT _ wd_937) (fun _ h9 => h9) rfl dX7_feed_47 ?_
      refine lv_aload_n hx hb dX7_feed_50 rfl (lv_at hl 1 rfl) ?_
      refine lv_dup hx hb dX7_feed_51 rfl ?_
      refine va_get (D := D) (ci := 5) (v := .int 0) (C := RX7) (T := TX7) (N := 37) hx hb hT iw_TX7 hown hK.1 hP 0 rfl rfl 8 (by decide) (hT _ wd_938) (fun _ h9 => h9) rfl dX7_feed_52 ?_
      refine lv_dup_x1 hx hb dX7_feed_55 rfl rfl ?_
      refine lv_iconst (v := 1) hx hb dX7_feed_56 (by decide) ?_
      refine lv_iadd hx hb dX7_feed_57 ?_
      refine gx_cst (v := 1) (by decide) ?_
      refine va_put (D := D) (ci := 5) (v := .int 1) (ty := .int) (C := RX7) (T := TX7) (N := 37) hx hb hT iw_TX7 tyX7 tyX7_ok nmX7 hown hK.1 hP hD hS 0 rfl rfl 8 (by decide) (hT _ wd_938) (fun _ h9 => h9) rfl (by decide +kernel) rfl rfl (Nat.le_of_ble_eq_true rfl) dX7_feed_58 (fun H locs hP hD hS => ?_)
      have hP : va_P D gx_cl [(hm, .inr (5, [.ref (am 1), .ref (am 2), .ref (am 3), .ref (am 4), .ref (am 5), .ref (am 6), .ref (am 7), .ref (am 8), .int 1, .ref (am 9), .int 0, .ref (am 10), .int 0, .ref (am 11), .ref (am 12), .int 0, .int 0, .int 1, .null, .null, .int 0, .int 0, .int 0, .long 0, .int 0, .ref (am 13), .int 0, .int 0, .int 0, .ref (am 14), .ref (am 15), .ref (am 16), .ref (am 17), .int 0, .ref (am 18), .ref (am 19), .ref (am 20)])), ((am 9), .inl (k 0, 8, .inl (fun _ => 0))), ((am 8), .inl (k 0, 250, .inl (fun _ => 0)))] H := hP
      have hD : va_D A [(hm, .inr (5, [.ref (am 1), .ref (am 2), .ref (am 3), .ref (am 4), .ref (am 5), .ref (am 6), .ref (am 7), .ref (am 8), .int 1, .ref (am 9), .int 0, .ref (am 10), .int 0, .ref (am 11), .ref (am 12), .int 0, .int 0, .int 1, .null, .null, .int 0, .int 0, .int 0, .long 0, .int 0, .ref (am 13), .int 0, .int 0, .int 0, .ref (am 14), .ref (am 15), .ref (am 16), .ref (am 17), .int 0, .ref (am 18), .ref (am 19), .ref (am 20)])), ((am 9), .inl (k 0, 8, .inl (fun _ => 0))), ((am 8), .inl (k 0, 250, .inl (fun _ => 0)))] := hD
      refine lv_iload_n hx hb dX7_feed_61 rfl (lv_at hl 2 rfl) ?_
      refine lv_bipush (v := 8) hx hb dX7_feed_62 (by decide) ?_
      refine lv_iload_n hx hb dX7_feed_64 rfl (lv_at hl 0 rfl) ?_
      refine lv_imul hx hb dX7_feed_65 ?_
      refine gx_cst (v := 16) (by decide) ?_
      refine lv_ishr hx hb dX7_feed_66 ?_
      refine lv_sipush (v := 255) hx hb dX7_feed_67 (by decide) ?_
      refine lv_iand hx hb dX7_feed_70 ?_
      refine va_iast hx hb hK.1 hP hD hS 2 0 rfl rfl (gx_vin rfl) dX7_feed_71 (fun H locs hP hD hS => ?_)
      obtain ⟨f_18, ef_18⟩ : ∃ f9, f9 = upd ((fun _ => 0) : Nat → Int32) (0 : Int32).toNatClampNeg (((vv >>> ((16 : Int32) &&& 31)) &&& (255 : Int32)) : Int32) := ⟨_, rfl⟩
      have hP : va_P D gx_cl [(hm, .inr (5, [.ref (am 1), .ref (am 2), .ref (am 3), .ref (am 4), .ref (am 5), .ref (am 6), .ref (am 7), .ref (am 8), .int 1, .ref (am 9), .int 0, .ref (am 10), .int 0, .ref (am 11), .ref (am 12), .int 0, .int 0, .int 1, .null, .null, .int 0, .int 0, .int 0, .long 0, .int 0, .ref (am 13), .int 0, .int 0, .int 0, .ref (am 14), .ref (am 15), .ref (am 16), .ref (am 17), .int 0, .ref (am 18), .ref (am 19), .ref (am 20)])), ((am 9), .inl (k 0, 8, .inl (fun _ => 0))), ((am 8), .inl (k 0, 250, .inl f_18))] H := by subst ef_18; exact hP
      have hD : va_D A [(hm, .inr (5, [.ref (am 1), .ref (am 2), .ref (am 3), .ref (am 4), .ref (am 5), .ref (am 6), .ref (am 7), .ref (am 8), .int 1, .ref (am 9), .int 0, .ref (am 10), .int 0, .ref (am 11), .ref (am 12), .int 0, .int 0, .int 1, .null, .null, .int 0, .int 0, .int 0, .long 0, .int 0, .ref (am 13), .int 0, .int 0, .int 0, .ref (am 14), .ref (am 15), .ref (am 16), .ref (am 17), .int 0, .ref (am 18), .ref (am 19), .ref (am 20)])), ((am 9), .inl (k 0, 8, .inl (fun _ => 0))), ((am 8), .inl (k 0, 250, .inl f_18))] := by subst ef_18; exact hD
      refine lv_iinc (v := 1) (lv' := [(3, .int 1), (0, .ref hm), (1, .int vv), (2, .int 3)]) hx hb dX7_feed_72 hl (k := 0) rfl (by decide) (by decide) rfl (fun ls hl => ?_)
      refine lv_goto (tgt := 42) hx hb dX7_feed_75 (by decide) ?_
      refine lv_iload_n hx hb dX7_feed_42 rfl (lv_at hl 0 rfl) ?_
      refine lv_if_lt (tgt := 78) hx hb dX7_feed_43 (by decide) (fun c_19 => absurd c_19 (by decide)) (fun c_19 => ?_)
      refine lv_aload_n hx hb dX7_feed_46 rfl (lv_at hl 1 rfl) ?_
      refine va_get (D := D) (ci := 5) (v := .ref (am 8)) (C := RX7) (T := TX7) (N := 37) hx hb hT iw_TX7 hown hK.1 hP 0 rfl rfl 7 (by decide) (hT _ wd_937) (fun _ h9 => h9) rfl dX7_feed_47 ?_
      refine lv_aload_n hx hb dX7_feed_50 rfl (lv_at hl 1 rfl) ?_
      refine lv_dup hx hb dX7_feed_51 rfl ?_
      refine va_get (D := D) (ci := 5) (v := .int 1) (C := RX7) (T := TX7) (N := 37) hx hb hT iw_TX7 hown hK.1 hP 0 rfl rfl 8 (by decide) (hT _ wd_938) (fun _ h9 => h9) rfl dX7_feed_52 ?_
      refine lv_dup_x1 hx hb dX7_feed_55 rfl rfl ?_
      refine lv_iconst (v := 1) hx hb dX7_feed_56 (by decide) ?_
      refine lv_iadd hx hb dX7_feed_57 ?_
      refine gx_cst (v := 2) (by decide) ?_
      refine va_put (D := D) (ci := 5) (v := .int 2) (ty := .int) (C := RX7) (T := TX7) (N := 37) hx hb hT iw_TX7 tyX7 tyX7_ok nmX7 hown hK.1 hP hD hS 0 rfl rfl 8 (by decide) (hT _ wd_938) (fun _ h9 => h9) rfl (by decide +kernel) rfl rfl (Nat.le_of_ble_eq_true rfl) dX7_feed_58 (fun H locs hP hD hS => ?_)
      have hP : va_P D gx_cl [(hm, .inr (5, [.ref (am 1), .ref (am 2), .ref (am 3), .ref (am 4), .ref (am 5), .ref (am 6), .ref (am 7), .ref (am 8), .int 2, .ref (am 9), .int 0, .ref (am 10), .int 0, .ref (am 11), .ref (am 12), .int 0, .int 0, .int 1, .null, .null, .int 0, .int 0, .int 0, .long 0, .int 0, .ref (am 13), .int 0, .int 0, .int 0, .ref (am 14), .ref (am 15), .ref (am 16), .ref (am 17), .int 0, .ref (am 18), .ref (am 19), .ref (am 20)])), ((am 9), .inl (k 0, 8, .inl (fun _ => 0))), ((am 8), .inl (k 0, 250, .inl f_18))] H := hP
      have hD : va_D A [(hm, .inr (5, [.ref (am 1), .ref (am 2), .ref (am 3), .ref (am 4), .ref (am 5), .ref (am 6), .ref (am 7), .ref (am 8), .int 2, .ref (am 9), .int 0, .ref (am 10), .int 0, .ref (am 11), .ref (am 12), .int 0, .int 0, .int 1, .null, .null, .int 0, .int 0, .int 0, .long 0, .int 0, .ref (am 13), .int 0, .int 0, .int 0, .ref (am 14), .ref (am 15), .ref (am 16), .ref (am 17), .int 0, .ref (am 18), .ref (am 19), .ref (am 20)])), ((am 9), .inl (k 0, 8, .inl (fun _ => 0))), ((am 8), .inl (k 0, 250, .inl f_18))] := hD
      refine lv_iload_n hx hb dX7_feed_61 rfl (lv_at hl 2 rfl) ?_
      refine lv_bipush (v := 8) hx hb dX7_feed_62 (by decide) ?_
      refine lv_iload_n hx hb dX7_feed_64 rfl (lv_at hl 0 rfl) ?_
      refine lv_imul hx hb dX7_feed_65 ?_
      refine gx_cst (v := 8) (by decide) ?_
      refine lv_ishr hx hb dX7_feed_66 ?_
      refine lv_sipush (v := 255) hx hb dX7_feed_67 (by decide) ?_
      refine lv_iand hx hb dX7_feed_70 ?_
      refine va_iast hx hb hK.1 hP hD hS 2 0 rfl rfl (gx_vin rfl) dX7_feed_71 (fun H locs hP hD hS => ?_)
      obtain ⟨f_20, ef_20⟩ : ∃ f9, f9 = upd f_18 (1 : Int32).toNatClampNeg (((vv >>> ((8 : Int32) &&& 31)) &&& (255 : Int32)) : Int32) := ⟨_, rfl⟩
      have hP : va_P D gx_cl [(hm, .inr (5, [.ref (am 1), .ref (am 2), .ref (am 3), .ref (am 4), .ref (am 5), .ref (am 6), .ref (am 7), .ref (am 8), .int 2, .ref (am 9), .int 0, .ref (am 10), .int 0, .ref (am 11), .ref (am 12), .int 0, .int 0, .int 1, .null, .null, .int 0, .int 0, .int 0, .long 0, .int 0, .ref (am 13), .int 0, .int 0, .int 0, .ref (am 14), .ref (am 15), .ref (am 16), .ref (am 17), .int 0, .ref (am 18), .ref (am 19), .ref (am 20)])), ((am 9), .inl (k 0, 8, .inl (fun _ => 0))), ((am 8), .inl (k 0, 250, .inl f_20))] H := by subst ef_20; exact hP
      have hD : va_D A [(hm, .inr (5, [.ref (am 1), .ref (am 2), .ref (am 3), .ref (am 4), .ref (am 5), .ref (am 6), .ref (am 7), .ref (am 8), .int 2, .ref (am 9), .int 0, .ref (am 10), .int 0, .ref (am 11), .ref (am 12), .int 0, .int 0, .int 1, .null, .null, .int 0, .int 0, .int 0, .long 0, .int 0, .ref (am 13), .int 0, .int 0, .int 0, .ref (am 14), .ref (am 15), .ref (am 16), .ref (am 17), .int 0, .ref (am 18), .ref (am 19), .ref (am 20)])), ((am 9), .inl (k 0, 8, .inl (fun _ => 0))), ((am 8), .inl (k 0, 250, .inl f_20))] := by subst ef_20; exact hD
      refine lv_iinc (v := 0) (lv' := [(3, .int 0), (0, .ref hm), (1, .int vv), (2, .int 3)]) hx hb dX7_feed_72 hl (k := 0) rfl (by decide) (by decide) rfl (fun ls hl => ?_)
      refine lv_goto (tgt := 42) hx hb dX7_feed_75 (by decide) ?_
      refine lv_iload_n hx hb dX7_feed_42 rfl (lv_at hl 0 rfl) ?_
      refine lv_if_lt (tgt := 78) hx hb dX7_feed_43 (by decide) (fun c_21 => absurd c_21 (by decide)) (fun c_21 => ?_)
      refine lv_aload_n hx hb dX7_feed_46 rfl (lv_at hl 1 rfl) ?_
      refine va_get (D := D) (ci := 5) (v := .ref (am 8)) (C := RX7) (T := TX7) (N := 37) hx hb hT iw_TX7 hown hK.1 hP 0 rfl rfl 7 (by decide) (hT _ wd_937) (fun _ h9 => h9) rfl dX7_feed_47 ?_
      refine lv_aload_n hx hb dX7_feed_50 rfl (lv_at hl 1 rfl) ?_
      refine lv_dup hx hb dX7_feed_51 rfl ?_
      refine va_get (D := D) (ci := 5) (v := .int 2) (C := RX7) (T := TX7) (N := 37) hx hb hT iw_TX7 hown hK.1 hP 0 rfl rfl 8 (by decide) (hT _ wd_938) (fun _ h9 => h9) rfl dX7_feed_52 ?_
      refine lv_dup_x1 hx hb dX7_feed_55 rfl rfl ?_
      refine lv_iconst (v := 1) hx hb dX7_feed_56 (by decide) ?_
      refine lv_iadd hx hb dX7_feed_57 ?_
      refine gx_cst (v := 3) (by decide) ?_
      refine va_put (D := D) (ci := 5) (v := .int 3) (ty := .int) (C := RX7) (T := TX7) (N := 37) hx hb hT iw_TX7 tyX7 tyX7_ok nmX7 hown hK.1 hP hD hS 0 rfl rfl 8 (by decide) (hT _ wd_938) (fun _ h9 => h9) rfl (by decide +kernel) rfl rfl (Nat.le_of_ble_eq_true rfl) dX7_feed_58 (fun H locs hP hD hS => ?_)
      have hP : va_P D gx_cl [(hm, .inr (5, [.ref (am 1), .ref (am 2), .ref (am 3), .ref (am 4), .ref (am 5), .ref (am 6), .ref (am 7), .ref (am 8), .int 3, .ref (am 9), .int 0, .ref (am 10), .int 0, .ref (am 11), .ref (am 12), .int 0, .int 0, .int 1, .null, .null, .int 0, .int 0, .int 0, .long 0, .int 0, .ref (am 13), .int 0, .int 0, .int 0, .ref (am 14), .ref (am 15), .ref (am 16), .ref (am 17), .int 0, .ref (am 18), .ref (am 19), .ref (am 20)])), ((am 9), .inl (k 0, 8, .inl (fun _ => 0))), ((am 8), .inl (k 0, 250, .inl f_20))] H := hP
      have hD : va_D A [(hm, .inr (5, [.ref (am 1), .ref (am 2), .ref (am 3), .ref (am 4), .ref (am 5), .ref (am 6), .ref (am 7), .ref (am 8), .int 3, .ref (am 9), .int 0, .ref (am 10), .int 0, .ref (am 11), .ref (am 12), .int 0, .int 0, .int 1, .null, .null, .int 0, .int 0, .int 0, .long 0, .int 0, .ref (am 13), .int 0, .int 0, .int 0, .ref (am 14), .ref (am 15), .ref (am 16), .ref (am 17), .int 0, .ref (am 18), .ref (am 19), .ref (am 20)])), ((am 9), .inl (k 0, 8, .inl (fun _ => 0))), ((am 8), .inl (k 0, 250, .inl f_20))] := hD
      refine lv_iload_n hx hb dX7_feed_61 rfl (lv_at hl 2 rfl) ?_
      refine lv_bipush (v := 8) hx hb dX7_feed_62 (by decide) ?_
      refine lv_iload_n hx hb dX7_feed_64 rfl (lv_at hl 0 rfl) ?_
      refine lv_imul hx hb dX7_feed_65 ?_
      refine gx_cst (v := 0) (by decide) ?_
      refine lv_ishr hx hb dX7_feed_66 ?_
      refine lv_sipush (v := 255) hx hb dX7_feed_67 (by decide) ?_
      refine lv_iand hx hb dX7_feed_70 ?_
      refine va_iast hx hb hK.1 hP hD hS 2 0 rfl rfl (gx_vin rfl) dX7_feed_71 (fun H locs hP hD hS => ?_)
      obtain ⟨f_22, ef_22⟩ : ∃ f9, f9 = upd f_20 (2 : Int32).toNatClampNeg (((vv >>> ((0 : Int32) &&& 31)) &&& (255 : Int32)) : Int32) := ⟨_, rfl⟩
      have hP : va_P D gx_cl [(hm, .inr (5, [.ref (am 1), .ref (am 2), .ref (am 3), .ref (am 4), .ref (am 5), .ref (am 6), .ref (am 7), .ref (am 8), .int 3, .ref (am 9), .int 0, .ref (am 10), .int 0, .ref (am 11), .ref (am 12), .int 0, .int 0, .int 1, .null, .null, .int 0, .int 0, .int 0, .long 0, .int 0, .ref (am 13), .int 0, .int 0, .int 0, .ref (am 14), .ref (am 15), .ref (am 16), .ref (am 17), .int 0, .ref (am 18), .ref (am 19), .ref (am 20)])), ((am 9), .inl (k 0, 8, .inl (fun _ => 0))), ((am 8), .inl (k 0, 250, .inl f_22))] H := by subst ef_22; exact hP
      have hD : va_D A [(hm, .inr (5, [.ref (am 1), .ref (am 2), .ref (am 3), .ref (am 4), .ref (am 5), .ref (am 6), .ref (am 7), .ref (am 8), .int 3, .ref (am 9), .int 0, .ref (am 10), .int 0, .ref (am 11), .ref (am 12), .int 0, .int 0, .int 1, .null, .null, .int 0, .int 0, .int 0, .long 0, .int 0, .ref (am 13), .int 0, .int 0, .int 0, .ref (am 14), .ref (am 15), .ref (am 16), .ref (am 17), .int 0, .ref (am 18), .ref (am 19), .ref (am 20)])), ((am 9), .inl (k 0, 8, .inl (fun _ => 0))), ((am 8), .inl (k 0, 250, .inl f_22))] := by subst ef_22; exact hD
      refine lv_iinc (v := (-1)) (lv' := [(3, .int (-1)), (0, .ref hm), (1, .int vv), (2, .int 3)]) hx hb dX7_feed_72 hl (k := 0) rfl (by decide) (by decide) rfl (fun ls hl => ?_)
      refine lv_goto (tgt := 42) hx hb dX7_feed_75 (by decide) ?_
      refine lv_iload_n hx hb dX7_feed_42 rfl (lv_at hl 0 rfl) ?_
      refine lv_if_lt (tgt := 78) hx hb dX7_feed_43 (by decide) (fun c_23 => ?_) (fun c_23 => absurd (by decide) c_23)
      refine lv_aload_n hx hb dX7_feed_78 rfl (lv_at hl 1 rfl) ?_
      refine va_get (D := D) (ci := 5) (v := .int 3) (C := RX7) (T := TX7) (N := 37) hx hb hT iw_TX7 hown hK.1 hP 0 rfl rfl 8 (by decide) (hT _ wd_938) (fun _ h9 => h9) rfl dX7_feed_79 ?_
      exact gx_retI C (u := ()) gx_nil gx_noneD hS (by decide) dX7_feed_82
    · refine lv_if_ne (tgt := 19) hx hb dX7_feed_9 (by decide) (fun c_24 => ?_) (fun c_24 => absurd c_24 (by decide))
      refine lv_iload_n hx hb dX7_feed_19 rfl (lv_at hl 2 rfl) ?_
      refine lv_sipush (v := 250) hx hb dX7_feed_20 (by decide) ?_
      refine lv_aload_n hx hb dX7_feed_23 rfl (lv_at hl 0 rfl) ?_
      refine va_get (D := D) (ci := 5) (v := .int 0) (C := RX7) (T := TX7) (N := 37) hx hb hT iw_TX7 hown hK.1 hP 0 rfl rfl 8 (by decide) (hT _ wd_938) (fun _ h9 => h9) rfl dX7_feed_24 ?_
      refine lv_isub hx hb dX7_feed_27 ?_
      refine gx_cst (v := 250) (by decide) ?_
      refine lv_icmp_le (tgt := 38) hx hb dX7_feed_28 (by decide) (fun c_25 => ?_) (fun c_25 => absurd (by decide) c_25)
      refine lv_iload_n hx hb dX7_feed_38 rfl (lv_at hl 2 rfl) ?_
      refine lv_iconst (v := 1) hx hb dX7_feed_39 (by decide) ?_
      refine lv_isub hx hb dX7_feed_40 ?_
      refine gx_cst (v := 3) (by decide) ?_
      refine lv_istore_n (lv' := [(3, .int 3), (0, .ref hm), (1, .int vv), (2, .int 4)]) hx hb dX7_feed_41 rfl hl (by decide) rfl (fun ls hl => ?_)
      refine lv_iload_n hx hb dX7_feed_42 rfl (lv_at hl 0 rfl) ?_
      refine lv_if_lt (tgt := 78) hx hb dX7_feed_43 (by decide) (fun c_26 => absurd c_26 (by decide)) (fun c_26 => ?_)
      refine lv_aload_n hx hb dX7_feed_46 rfl (lv_at hl 1 rfl) ?_
      refine va_get (D := D) (ci := 5) (v := .ref (am 8)) (C := RX7) (T := TX7) (N := 37) hx hb hT iw_TX7 hown hK.1 hP 0 rfl rfl 7 (by decide) (hT _ wd_937) (fun _ h9 => h9) rfl dX7_feed_47 ?_
      refine lv_aload_n hx hb dX7_feed_50 rfl (lv_at hl 1 rfl) ?_
      refine lv_dup hx hb dX7_feed_51 rfl ?_
      refine va_get (D := D) (ci := 5) (v := .int 0) (C := RX7) (T := TX7) (N := 37) hx hb hT iw_TX7 hown hK.1 hP 0 rfl rfl 8 (by decide) (hT _ wd_938) (fun _ h9 => h9) rfl dX7_feed_52 ?_
      refine lv_dup_x1 hx hb dX7_feed_55 rfl rfl ?_
      refine lv_iconst (v := 1) hx hb dX7_feed_56 (by decide) ?_
      refine lv_iadd hx hb dX7_feed_57 ?_
      refine gx_cst (v := 1) (by decide) ?_
      refine va_put (D := D) (ci := 5) (v := .int 1) (ty := .int) (C := RX7) (T := TX7) (N := 37) hx hb hT iw_TX7 tyX7 tyX7_ok nmX7 hown hK.1 hP hD hS 0 rfl rfl 8 (by decide) (hT _ wd_938) (fun _ h9 => h9) rfl (by decide +kernel) rfl rfl (Nat.le_of_ble_eq_true rfl) dX7_feed_58 (fun H locs hP hD hS => ?_)
      have hP : va_P D gx_cl [(hm, .inr (5, [.ref (am 1), .ref (am 2), .ref (am 3), .ref (am 4), .ref (am 5), .ref (am 6), .ref (am 7), .ref (am 8), .int 1, .ref (am 9), .int 0, .ref (am 10), .int 0, .ref (am 11), .ref (am 12), .int 0, .int 0, .int 1, .null, .null, .int 0, .int 0, .int 0, .long 0, .int 0, .ref (am 13), .int 0, .int 0, .int 0, .ref (am 14), .ref (am 15), .ref (am 16), .ref (am 17), .int 0, .ref (am 18), .ref (am 19), .ref (am 20)])), ((am 9), .inl (k 0, 8, .inl (fun _ => 0))), ((am 8), .inl (k 0, 250, .inl (fun _ => 0)))] H := hP
      have hD : va_D A [(hm, .inr (5, [.ref (am 1), .ref (am 2), .ref (am 3), .ref (am 4), .ref (am 5), .ref (am 6), .ref (am 7), .ref (am 8), .int 1, .ref (am 9), .int 0, .ref (am 10), .int 0, .ref (am 11), .ref (am 12), .int 0, .int 0, .int 1, .null, .null, .int 0, .int 0, .int 0, .long 0, .int 0, .ref (am 13), .int 0, .int 0, .int 0, .ref (am 14), .ref (am 15), .ref (am 16), .ref (am 17), .int 0, .ref (am 18), .ref (am 19), .ref (am 20)])), ((am 9), .inl (k 0, 8, .inl (fun _ => 0))), ((am 8), .inl (k 0, 250, .inl (fun _ => 0)))] := hD
      refine lv_iload_n hx hb dX7_feed_61 rfl (lv_at hl 2 rfl) ?_
      refine lv_bipush (v := 8) hx hb dX7_feed_62 (by decide) ?_
      refine lv_iload_n hx hb dX7_feed_64 rfl (lv_at hl 0 rfl) ?_
      refine lv_imul hx hb dX7_feed_65 ?_
      refine gx_cst (v := 24) (by decide) ?_
      refine lv_ishr hx hb dX7_feed_66 ?_
      refine lv_sipush (v := 255) hx hb dX7_feed_67 (by decide) ?_
      refine lv_iand hx hb dX7_feed_70 ?_
      refine va_iast hx hb hK.1 hP hD hS 2 0 rfl rfl (gx_vin rfl) dX7_feed_71 (fun H locs hP hD hS => ?_)
      obtain ⟨f_27, ef_27⟩ : ∃ f9, f9 = upd ((fun _ => 0) : Nat → Int32) (0 : Int32).toNatClampNeg (((vv >>> ((24 : Int32) &&& 31)) &&& (255 : Int32)) : Int32) := ⟨_, rfl⟩
      have hP : va_P D gx_cl [(hm, .inr (5, [.ref (am 1), .ref (am 2), .ref (am 3), .ref (am 4), .ref (am 5), .ref (am 6), .ref (am 7), .ref (am 8), .int 1, .ref (am 9), .int 0, .ref (am 10), .int 0, .ref (am 11), .ref (am 12), .int 0, .int 0, .int 1, .null, .null, .int 0, .int 0, .int 0, .long 0, .int 0, .ref (am 13), .int 0, .int 0, .int 0, .ref (am 14), .ref (am 15), .ref (am 16), .ref (am 17), .int 0, .ref (am 18), .ref (am 19), .ref (am 20)])), ((am 9), .inl (k 0, 8, .inl (fun _ => 0))), ((am 8), .inl (k 0, 250, .inl f_27))] H := by subst ef_27; exact hP
      have hD : va_D A [(hm, .inr (5, [.ref (am 1), .ref (am 2), .ref (am 3), .ref (am 4), .ref (am 5), .ref (am 6), .ref (am 7), .ref (am 8), .int 1, .ref (am 9), .int 0, .ref (am 10), .int 0, .ref (am 11), .ref (am 12), .int 0, .int 0, .int 1, .null, .null, .int 0, .int 0, .int 0, .long 0, .int 0, .ref (am 13), .int 0, .int 0, .int 0, .ref (am 14), .ref (am 15), .ref (am 16), .ref (am 17), .int 0, .ref (am 18), .ref (am 19), .ref (am 20)])), ((am 9), .inl (k 0, 8, .inl (fun _ => 0))), ((am 8), .inl (k 0, 250, .inl f_27))] := by subst ef_27; exact hD
      refine lv_iinc (v := 2) (lv' := [(3, .int 2), (0, .ref hm), (1, .int vv), (2, .int 4)]) hx hb dX7_feed_72 hl (k := 0) rfl (by decide) (by decide) rfl (fun ls hl => ?_)
      refine lv_goto (tgt := 42) hx hb dX7_feed_75 (by decide) ?_
      refine lv_iload_n hx hb dX7_feed_42 rfl (lv_at hl 0 rfl) ?_
      refine lv_if_lt (tgt := 78) hx hb dX7_feed_43 (by decide) (fun c_28 => absurd c_28 (by decide)) (fun c_28 => ?_)
      refine lv_aload_n hx hb dX7_feed_46 rfl (lv_at hl 1 rfl) ?_
      refine va_get (D := D) (ci := 5) (v := .ref (am 8)) (C := RX7) (T := TX7) (N := 37) hx hb hT iw_TX7 hown hK.1 hP 0 rfl rfl 7 (by decide) (hT _ wd_937) (fun _ h9 => h9) rfl dX7_feed_47 ?_
      refine lv_aload_n hx hb dX7_feed_50 rfl (lv_at hl 1 rfl) ?_
      refine lv_dup hx hb dX7_feed_51 rfl ?_
      refine va_get (D := D) (ci := 5) (v := .int 1) (C := RX7) (T := TX7) (N := 37) hx hb hT iw_TX7 hown hK.1 hP 0 rfl rfl 8 (by decide) (hT _ wd_938) (fun _ h9 => h9) rfl dX7_feed_52 ?_
      refine lv_dup_x1 hx hb dX7_feed_55 rfl rfl ?_
      refine lv_iconst (v := 1) hx hb dX7_feed_56 (by decide) ?_
      refine lv_iadd hx hb dX7_feed_57 ?_
      refine gx_cst (v := 2) (by decide) ?_
      refine va_put (D := D) (ci := 5) (v := .int 2) (ty := .int) (C := RX7) (T := TX7) (N := 37) hx hb hT iw_TX7 tyX7 tyX7_ok nmX7 hown hK.1 hP hD hS 0 rfl rfl 8 (by decide) (hT _ wd_938) (fun _ h9 => h9) rfl (by decide +kernel) rfl rfl (Nat.le_of_ble_eq_true rfl) dX7_feed_58 (fun H locs hP hD hS => ?_)
      have hP : va_P D gx_cl [(hm, .inr (5, [.ref (am 1), .ref (am 2), .ref (am 3), .ref (am 4), .ref (am 5), .ref (am 6), .ref (am 7), .ref (am 8), .int 2, .ref (am 9), .int 0, .ref (am 10), .int 0, .ref (am 11), .ref (am 12), .int 0, .int 0, .int 1, .null, .null, .int 0, .int 0, .int 0, .long 0, .int 0, .ref (am 13), .int 0, .int 0, .int 0, .ref (am 14), .ref (am 15), .ref (am 16), .ref (am 17), .int 0, .ref (am 18), .ref (am 19), .ref (am 20)])), ((am 9), .inl (k 0, 8, .inl (fun _ => 0))), ((am 8), .inl (k 0, 250, .inl f_27))] H := hP
      have hD : va_D A [(hm, .inr (5, [.ref (am 1), .ref (am 2), .ref (am 3), .ref (am 4), .ref (am 5), .ref (am 6), .ref (am 7), .ref (am 8), .int 2, .ref (am 9), .int 0, .ref (am 10), .int 0, .ref (am 11), .ref (am 12), .int 0, .int 0, .int 1, .null, .null, .int 0, .int 0, .int 0, .long 0, .int 0, .ref (am 13), .int 0, .int 0, .int 0, .ref (am 14), .ref (am 15), .ref (am 16), .ref (am 17), .int 0, .ref (am 18), .ref (am 19), .ref (am 20)])), ((am 9), .inl (k 0, 8, .inl (fun _ => 0))), ((am 8), .inl (k 0, 250, .inl f_27))] := hD
      refine lv_iload_n hx hb dX7_feed_61 rfl (lv_at hl 2 rfl) ?_
      refine lv_bipush (v := 8) hx hb dX7_feed_62 (by decide) ?_
      refine lv_iload_n hx hb dX7_feed_64 rfl (lv_at hl 0 rfl) ?_
      refine lv_imul hx hb dX7_feed_65 ?_
      refine gx_cst (v := 16) (by decide) ?_
      refine lv_ishr hx hb dX7_feed_66 ?_
      refine lv_sipush (v := 255) hx hb dX7_feed_67 (by decide) ?_
      refine lv_iand hx hb dX7_feed_70 ?_
      refine va_iast hx hb hK.1 hP hD hS 2 0 rfl rfl (gx_vin rfl) dX7_feed_71 (fun H locs hP hD hS => ?_)
      obtain ⟨f_29, ef_29⟩ : ∃ f9, f9 = upd f_27 (1 : Int32).toNatClampNeg (((vv >>> ((16 : Int32) &&& 31)) &&& (255 : Int32)) : Int32) := ⟨_, rfl⟩
      have hP : va_P D gx_cl [(hm, .inr (5, [.ref (am 1), .ref (am 2), .ref (am 3), .ref (am 4), .ref (am 5), .ref (am 6), .ref (am 7), .ref (am 8), .int 2, .ref (am 9), .int 0, .ref (am 10), .int 0, .ref (am 11), .ref (am 12), .int 0, .int 0, .int 1, .null, .null, .int 0, .int 0, .int 0, .long 0, .int 0, .ref (am 13), .int 0, .int 0, .int 0, .ref (am 14), .ref (am 15), .ref (am 16), .ref (am 17), .int 0, .ref (am 18), .ref (am 19), .ref (am 20)])), ((am 9), .inl (k 0, 8, .inl (fun _ => 0))), ((am 8), .inl (k 0, 250, .inl f_29))] H := by subst ef_29; exact hP
      have hD : va_D A [(hm, .inr (5, [.ref (am 1), .ref (am 2), .ref (am 3), .ref (am 4), .ref (am 5), .ref (am 6), .ref (am 7), .ref (am 8), .int 2, .ref (am 9), .int 0, .ref (am 10), .int 0, .ref (am 11), .ref (am 12), .int 0, .int 0, .int 1, .null, .null, .int 0, .int 0, .int 0, .long 0, .int 0, .ref (am 13), .int 0, .int 0, .int 0, .ref (am 14), .ref (am 15), .ref (am 16), .ref (am 17), .int 0, .ref (am 18), .ref (am 19), .ref (am 20)])), ((am 9), .inl (k 0, 8, .inl (fun _ => 0))), ((am 8), .inl (k 0, 250, .inl f_29))] := by subst ef_29; exact hD
      refine lv_iinc (v := 1) (lv' := [(3, .int 1), (0, .ref hm), (1, .int vv), (2, .int 4)]) hx hb dX7_feed_72 hl (k := 0) rfl (by decide) (by decide) rfl (fun ls hl => ?_)
      refine lv_goto (tgt := 42) hx hb dX7_feed_75 (by decide) ?_
      refine lv_iload_n hx hb dX7_feed_42 rfl (lv_at hl 0 rfl) ?_
      refine lv_if_lt (tgt := 78) hx hb dX7_feed_43 (by decide) (fun c_30 => absurd c_30 (by decide)) (fun c_30 => ?_)
      refine lv_aload_n hx hb dX7_feed_46 rfl (lv_at hl 1 rfl) ?_
      refine va_get (D := D) (ci := 5) (v := .ref (am 8)) (C := RX7) (T := TX7) (N := 37) hx hb hT iw_TX7 hown hK.1 hP 0 rfl rfl 7 (by decide) (hT _ wd_937) (fun _ h9 => h9) rfl dX7_feed_47 ?_
      refine lv_aload_n hx hb dX7_feed_50 rfl (lv_at hl 1 rfl) ?_
      refine lv_dup hx hb dX7_feed_51 rfl ?_
      refine va_get (D := D) (ci := 5) (v := .int 2) (C := RX7) (T := TX7) (N := 37) hx hb hT iw_TX7 hown hK.1 hP 0 rfl rfl 8 (by decide) (hT _ wd_938) (fun _ h9 => h9) rfl dX7_feed_52 ?_
      refine lv_dup_x1 hx hb dX7_feed_55 rfl rfl ?_
      refine lv_iconst (v := 1) hx hb dX7_feed_56 (by decide) ?_
      refine lv_iadd hx hb dX7_feed_57 ?_
      refine gx_cst (v := 3) (by decide) ?_
      refine va_put (D := D) (ci := 5) (v := .int 3) (ty := .int) (C := RX7) (T := TX7) (N := 37) hx hb hT iw_TX7 tyX7 tyX7_ok nmX7 hown hK.1 hP hD hS 0 rfl rfl 8 (by decide) (hT _ wd_938) (fun _ h9 => h9) rfl (by decide +kernel) rfl rfl (Nat.le_of_ble_eq_true rfl) dX7_feed_58 (fun H locs hP hD hS => ?_)
      have hP : va_P D gx_cl [(hm, .inr (5, [.ref (am 1), .ref (am 2), .ref (am 3), .ref (am 4), .ref (am 5), .ref (am 6), .ref (am 7), .ref (am 8), .int 3, .ref (am 9), .int 0, .ref (am 10), .int 0, .ref (am 11), .ref (am 12), .int 0, .int 0, .int 1, .null, .null, .int 0, .int 0, .int 0, .long 0, .int 0, .ref (am 13), .int 0, .int 0, .int 0, .ref (am 14), .ref (am 15), .ref (am 16), .ref (am 17), .int 0, .ref (am 18), .ref (am 19), .ref (am 20)])), ((am 9), .inl (k 0, 8, .inl (fun _ => 0))), ((am 8), .inl (k 0, 250, .inl f_29))] H := hP
      have hD : va_D A [(hm, .inr (5, [.ref (am 1), .ref (am 2), .ref (am 3), .ref (am 4), .ref (am 5), .ref (am 6), .ref (am 7), .ref (am 8), .int 3, .ref (am 9), .int 0, .ref (am 10), .int 0, .ref (am 11), .ref (am 12), .int 0, .int 0, .int 1, .null, .null, .int 0, .int 0, .int 0, .long 0, .int 0, .ref (am 13), .int 0, .int 0, .int 0, .ref (am 14), .ref (am 15), .ref (am 16), .ref (am 17), .int 0, .ref (am 18), .ref (am 19), .ref (am 20)])), ((am 9), .inl (k 0, 8, .inl (fun _ => 0))), ((am 8), .inl (k 0, 250, .inl f_29))] := hD
      refine lv_iload_n hx hb dX7_feed_61 rfl (lv_at hl 2 rfl) ?_
      refine lv_bipush (v := 8) hx hb dX7_feed_62 (by decide) ?_
      refine lv_iload_n hx hb dX7_feed_64 rfl (lv_at hl 0 rfl) ?_
      refine lv_imul hx hb dX7_feed_65 ?_
      refine gx_cst (v := 8) (by decide) ?_
      refine lv_ishr hx hb dX7_feed_66 ?_
      refine lv_sipush (v := 255) hx hb dX7_feed_67 (by decide) ?_
      refine lv_iand hx hb dX7_feed_70 ?_
      refine va_iast hx hb hK.1 hP hD hS 2 0 rfl rfl (gx_vin rfl) dX7_feed_71 (fun H locs hP hD hS => ?_)
      obtain ⟨f_31, ef_31⟩ : ∃ f9, f9 = upd f_29 (2 : Int32).toNatClampNeg (((vv >>> ((8 : Int32) &&& 31)) &&& (255 : Int32)) : Int32) := ⟨_, rfl⟩
      have hP : va_P D gx_cl [(hm, .inr (5, [.ref (am 1), .ref (am 2), .ref (am 3), .ref (am 4), .ref (am 5), .ref (am 6), .ref (am 7), .ref (am 8), .int 3, .ref (am 9), .int 0, .ref (am 10), .int 0, .ref (am 11), .ref (am 12), .int 0, .int 0, .int 1, .null, .null, .int 0, .int 0, .int 0, .long 0, .int 0, .ref (am 13), .int 0, .int 0, .int 0, .ref (am 14), .ref (am 15), .ref (am 16), .ref (am 17), .int 0, .ref (am 18), .ref (am 19), .ref (am 20)])), ((am 9), .inl (k 0, 8, .inl (fun _ => 0))), ((am 8), .inl (k 0, 250, .inl f_31))] H := by subst ef_31; exact hP
      have hD : va_D A [(hm, .inr (5, [.ref (am 1), .ref (am 2), .ref (am 3), .ref (am 4), .ref (am 5), .ref (am 6), .ref (am 7), .ref (am 8), .int 3, .ref (am 9), .int 0, .ref (am 10), .int 0, .ref (am 11), .ref (am 12), .int 0, .int 0, .int 1, .null, .null, .int 0, .int 0, .int 0, .long 0, .int 0, .ref (am 13), .int 0, .int 0, .int 0, .ref (am 14), .ref (am 15), .ref (am 16), .ref (am 17), .int 0, .ref (am 18), .ref (am 19), .ref (am 20)])), ((am 9), .inl (k 0, 8, .inl (fun _ => 0))), ((am 8), .inl (k 0, 250, .inl f_31))] := by subst ef_31; exact hD
      refine lv_iinc (v := 0) (lv' := [(3, .int 0), (0, .ref hm), (1, .int vv), (2, .int 4)]) hx hb dX7_feed_72 hl (k := 0) rfl (by decide) (by decide) rfl (fun ls hl => ?_)
      refine lv_goto (tgt := 42) hx hb dX7_feed_75 (by decide) ?_
      refine lv_iload_n hx hb dX7_feed_42 rfl (lv_at hl 0 rfl) ?_
      refine lv_if_lt (tgt := 78) hx hb dX7_feed_43 (by decide) (fun c_32 => absurd c_32 (by decide)) (fun c_32 => ?_)
      refine lv_aload_n hx hb dX7_feed_46 rfl (lv_at hl 1 rfl) ?_
      refine va_get (D := D) (ci := 5) (v := .ref (am 8)) (C := RX7) (T := TX7) (N := 37) hx hb hT iw_TX7 hown hK.1 hP 0 rfl rfl 7 (by decide) (hT _ wd_937) (fun _ h9 => h9) rfl dX7_feed_47 ?_
      refine lv_aload_n hx hb dX7_feed_50 rfl (lv_at hl 1 rfl) ?_
      refine lv_dup hx hb dX7_feed_51 rfl ?_
      refine va_get (D := D) (ci := 5) (v := .int 3) (C := RX7) (T := TX7) (N := 37) hx hb hT iw_TX7 hown hK.1 hP 0 rfl rfl 8 (by decide) (hT _ wd_938) (fun _ h9 => h9) rfl dX7_feed_52 ?_
      refine lv_dup_x1 hx hb dX7_feed_55 rfl rfl ?_
      refine lv_iconst (v := 1) hx hb dX7_feed_56 (by decide) ?_
      refine lv_iadd hx hb dX7_feed_57 ?_
      refine gx_cst (v := 4) (by decide) ?_
      refine va_put (D := D) (ci := 5) (v := .int 4) (ty := .int) (C := RX7) (T := TX7) (N := 37) hx hb hT iw_TX7 tyX7 tyX7_ok nmX7 hown hK.1 hP hD hS 0 rfl rfl 8 (by decide) (hT _ wd_938) (fun _ h9 => h9) rfl (by decide +kernel) rfl rfl (Nat.le_of_ble_eq_true rfl) dX7_feed_58 (fun H locs hP hD hS => ?_)
      have hP : va_P D gx_cl [(hm, .inr (5, [.ref (am 1), .ref (am 2), .ref (am 3), .ref (am 4), .ref (am 5), .ref (am 6), .ref (am 7), .ref (am 8), .int 4, .ref (am 9), .int 0, .ref (am 10), .int 0, .ref (am 11), .ref (am 12), .int 0, .int 0, .int 1, .null, .null, .int 0, .int 0, .int 0, .long 0, .int 0, .ref (am 13), .int 0, .int 0, .int 0, .ref (am 14), .ref (am 15), .ref (am 16), .ref (am 17), .int 0, .ref (am 18), .ref (am 19), .ref (am 20)])), ((am 9), .inl (k 0, 8, .inl (fun _ => 0))), ((am 8), .inl (k 0, 250, .inl f_31))] H := hP
      have hD : va_D A [(hm, .inr (5, [.ref (am 1), .ref (am 2), .ref (am 3), .ref (am 4), .ref (am 5), .ref (am 6), .ref (am 7), .ref (am 8), .int 4, .ref (am 9), .int 0, .ref (am 10), .int 0, .ref (am 11), .ref (am 12), .int 0, .int 0, .int 1, .null, .null, .int 0, .int 0, .int 0, .long 0, .int 0, .ref (am 13), .int 0, .int 0, .int 0, .ref (am 14), .ref (am 15), .ref (am 16), .ref (am 17), .int 0, .ref (am 18), .ref (am 19), .ref (am 20)])), ((am 9), .inl (k 0, 8, .inl (fun _ => 0))), ((am 8), .inl (k 0, 250, .inl f_31))] := hD
      refine lv_iload_n hx hb dX7_feed_61 rfl (lv_at hl 2 rfl) ?_
      refine lv_bipush (v := 8) hx hb dX7_feed_62 (by decide) ?_
      refine lv_iload_n hx hb dX7_feed_64 rfl (lv_at hl 0 rfl) ?_
      refine lv_imul hx hb dX7_feed_65 ?_
      refine gx_cst (v := 0) (by decide) ?_
      refine lv_ishr hx hb dX7_feed_66 ?_
      refine lv_sipush (v := 255) hx hb dX7_feed_67 (by decide) ?_
      refine lv_iand hx hb dX7_feed_70 ?_
      refine va_iast hx hb hK.1 hP hD hS 2 0 rfl rfl (gx_vin rfl) dX7_feed_71 (fun H locs hP hD hS => ?_)
      obtain ⟨f_33, ef_33⟩ : ∃ f9, f9 = upd f_31 (3 : Int32).toNatClampNeg (((vv >>> ((0 : Int32) &&& 31)) &&& (255 : Int32)) : Int32) := ⟨_, rfl⟩
      have hP : va_P D gx_cl [(hm, .inr (5, [.ref (am 1), .ref (am 2), .ref (am 3), .ref (am 4), .ref (am 5), .ref (am 6), .ref (am 7), .ref (am 8), .int 4, .ref (am 9), .int 0, .ref (am 10), .int 0, .ref (am 11), .ref (am 12), .int 0, .int 0, .int 1, .null, .null, .int 0, .int 0, .int 0, .long 0, .int 0, .ref (am 13), .int 0, .int 0, .int 0, .ref (am 14), .ref (am 15), .ref (am 16), .ref (am 17), .int 0, .ref (am 18), .ref (am 19), .ref (am 20)])), ((am 9), .inl (k 0, 8, .inl (fun _ => 0))), ((am 8), .inl (k 0, 250, .inl f_33))] H := by subst ef_33; exact hP
      have hD : va_D A [(hm, .inr (5, [.ref (am 1), .ref (am 2), .ref (am 3), .ref (am 4), .ref (am 5), .ref (am 6), .ref (am 7), .ref (am 8), .int 4, .ref (am 9), .int 0, .ref (am 10), .int 0, .ref (am 11), .ref (am 12), .int 0, .int 0, .int 1, .null, .null, .int 0, .int 0, .int 0, .long 0, .int 0, .ref (am 13), .int 0, .int 0, .int 0, .ref (am 14), .ref (am 15), .ref (am 16), .ref (am 17), .int 0, .ref (am 18), .ref (am 19), .ref (am 20)])), ((am 9), .inl (k 0, 8, .inl (fun _ => 0))), ((am 8), .inl (k 0, 250, .inl f_33))] := by subst ef_33; exact hD
      refine lv_iinc (v := (-1)) (lv' := [(3, .int (-1)), (0, .ref hm), (1, .int vv), (2, .int 4)]) hx hb dX7_feed_72 hl (k := 0) rfl (by decide) (by decide) rfl (fun ls hl => ?_)
      refine lv_goto (tgt := 42) hx hb dX7_feed_75 (by decide) ?_
      refine lv_iload_n hx hb dX7_feed_42 rfl (lv_at hl 0 rfl) ?_
      refine lv_if_lt (tgt := 78) hx hb dX7_feed_43 (by decide) (fun c_34 => ?_) (fun c_34 => absurd (by decide) c_34)
      refine lv_aload_n hx hb dX7_feed_78 rfl (lv_at hl 1 rfl) ?_
      refine va_get (D := D) (ci := 5) (v := .int 4) (C := RX7) (T := TX7) (N := 37) hx hb hT iw_TX7 hown hK.1 hP 0 rfl rfl 8 (by decide) (hT _ wd_938) (fun _ h9 => h9) rfl dX7_feed_79 ?_
      exact gx_retI C (u := ()) gx_nil gx_noneD hS (by decide) dX7_feed_82
  · refine lv_if_ne (tgt := 19) hx hb dX7_feed_9 (by decide) (fun c_35 => absurd (by decide) c_35) (fun c_35 => ?_)
    refine lv_aload_n hx hb dX7_feed_12 rfl (lv_at hl 0 rfl) ?_
    refine lv_bipush (v := (-2)) hx hb dX7_feed_13 (by decide) ?_
    refine gx_ei (wc := ([(hm, .inr (5, [.ref (am 1), .ref (am 2), .ref (am 3), .ref (am 4), .ref (am 5), .ref (am 6), .ref (am 7), .ref (am 8), .int 0, .ref (am 9), .int 0, .ref (am 10), .int 0, .ref (am 11), .ref (am 12), .int 0, .int 0, .int 1, .null, .null, .int 0, .int 0, .int 0, .long 0, .int 0, .ref (am 13), .int 0, .int 0, .int 0, .ref (am 14), .ref (am 15), .ref (am 16), .ref (am 17), .int 0, .ref (am 18), .ref (am 19), .ref (am 20)])), ((am 9), .inl (k 0, 8, .inl (fun _ => 0)))] : va_W)) (wr := [((am 8), .inl (k 0, 250, .inl (fun _ => 0)))]) (isC := [0, 1]) (isR := [2]) hP hD hS hA rfl rfl (by decide) (by decide) (gx_runV (na := 1) (As := [.int (-2)]) (rest := []) (ci := 5) C hl.1 hK (gx_subP (wc := ([(hm, .inr (5, [.ref (am 1), .ref (am 2), .ref (am 3), .ref (am 4), .ref (am 5), .ref (am 6), .ref (am 7), .ref (am 8), .int 0, .ref (am 9), .int 0, .ref (am 10), .int 0, .ref (am 11), .ref (am 12), .int 0, .int 0, .int 1, .null, .null, .int 0, .int 0, .int 0, .long 0, .int 0, .ref (am 13), .int 0, .int 0, .int 0, .ref (am 14), .ref (am 15), .ref (am 16), .ref (am 17), .int 0, .ref (am 18), .ref (am 19), .ref (am 20)])), ((am 9), .inl (k 0, 8, .inl (fun _ => 0)))] : va_W)) hP [0, 1] rfl) ((hD.sub (ws' := ([(hm, .inr (5, [.ref (am 1), .ref (am 2), .ref (am 3), .ref (am 4), .ref (am 5), .ref (am 6), .ref (am 7), .ref (am 8), .int 0, .ref (am 9), .int 0, .ref (am 10), .int 0, .ref (am 11), .ref (am 12), .int 0, .int 0, .int 1, .null, .null, .int 0, .int 0, .int 0, .long 0, .int 0, .ref (am 13), .int 0, .int 0, .int 0, .ref (am 14), .ref (am 15), .ref (am 16), .ref (am 17), .int 0, .ref (am 18), .ref (am 19), .ref (am 20)])), ((am 9), .inl (k 0, 8, .inl (fun _ => 0)))] : va_W)) [0, 1] (by decide) rfl).weaken (fun _ _ _ _ => trivial)) (m_refuse2 l D k hm am .null .null 0 _) gV_RX7_95 (by decide +kernel) rfl rfl ⟨Nat.le_of_ble_eq_true rfl, Nat.le_of_ble_eq_true rfl⟩ rfl rfl rfl rfl (Nat.le_of_ble_eq_true rfl) dX7_feed_15 ⟨Nat.le_of_ble_eq_true rfl, Nat.le_of_ble_eq_true rfl⟩) (fun r_38 u_36 H locs h_37 hP hD hS => ?_)
    have h_37 : r_38 = -2 := h_37
    have hP : va_P D gx_cl [((am 8), .inl (k 0, 250, .inl (fun _ => 0)))] H := hP
    have hD : va_D A [((am 8), .inl (k 0, 250, .inl (fun _ => 0)))] := hD
    have eh_37 := h_37
    subst eh_37
    exact gx_retI C (u := ()) gx_nil gx_noneD hS (by simp [gs_feed, c_1]) dX7_feed_18
set_option maxHeartbeats 4000000 in
set_option maxRecDepth 100000 in
theorem m_wipe_pub (l : Launch) (D : va_G) (k : Nat → ClassId) (hm : Nat) (am : Nat → Nat) (sz : Nat) : Met l yX7_wipe (.code yX7_wipe cX7_wipe 2 (some .int) :: gx_T) ({ frames := 0, cells := 0, slots := 0, locals := 0 }) (gx_Pre D k [.ref hm] ([(hm, .inr (5, [.ref (am 1), .ref (am 2), .ref (am 3), .ref (am 4), .ref (am 5), .ref (am 6), .ref (am 7), .ref (am 8), .int 0, .ref (am 9), .int 0, .ref (am 10), .int 0, .ref (am 11), .ref (am 12), .int 0, .int 0, .int 1, .null, .null, .int 0, .int 0, .int 0, .long 0, .int 0, .ref (am 13), .int 0, .int 0, .int 0, .ref (am 14), .ref (am 15), .ref (am 16), .ref (am 17), .int 0, .ref (am 18), .ref (am 19), .ref (am 20)]))]) sz) (gx_Qi D (fun (r : Int32) (u : Unit) => r = 0) (fun (u : Unit) => ([] : va_W)) (va_A ([(hm, .inr (5, [.ref (am 1), .ref (am 2), .ref (am 3), .ref (am 4), .ref (am 5), .ref (am 6), .ref (am 7), .ref (am 8), .int 0, .ref (am 9), .int 0, .ref (am 10), .int 0, .ref (am 11), .ref (am 12), .int 0, .int 0, .int 1, .null, .null, .int 0, .int 0, .int 0, .long 0, .int 0, .ref (am 13), .int 0, .int 0, .int 0, .ref (am 14), .ref (am 15), .ref (am 16), .ref (am 17), .int 0, .ref (am 18), .ref (am 19), .ref (am 20)]))]) sz)) 0 0 (va_A ([(hm, .inr (5, [.ref (am 1), .ref (am 2), .ref (am 3), .ref (am 4), .ref (am 5), .ref (am 6), .ref (am 7), .ref (am 8), .int 0, .ref (am 9), .int 0, .ref (am 10), .int 0, .ref (am 11), .ref (am 12), .int 0, .int 0, .int 1, .null, .null, .int 0, .int 0, .int 0, .long 0, .int 0, .ref (am 13), .int 0, .int 0, .int 0, .ref (am 14), .ref (am 15), .ref (am 16), .ref (am 17), .int 0, .ref (am 18), .ref (am 19), .ref (am 20)]))]) sz) := by
  refine gx_metE (Qc := fun A => gx_Qi D (fun (r : Int32) (u : Unit) => r = 0) (fun (u : Unit) => ([] : va_W)) A) (y := yX7_wipe) (cc := cX7_wipe) (n := 2) (ret := (some .int)) (av := [.ref hm]) (by decide) (Nat.le_of_ble_eq_true rfl) ?_
  intro p e s m below meth c A ls C hA hP hD hK hS hl
  obtain ⟨hx, hb, hr, hml, hown, hT, hlk, hin⟩ := id C
  have hown : s.vm.findClass RX7 = some m.cls := hown
  have hl : lv_has ls 2 [(0, .ref hm)] := hl
  refine lv_aload_n hx hb dX7_wipe_0 rfl (lv_at hl 0 rfl) ?_
  refine va_get (D := D) (ci := 5) (v := .int 0) (C := RX7) (T := TX7) (N := 37) hx hb hT iw_TX7 hown hK.1 hP 0 rfl rfl 8 (by decide) (hT _ wd_938) (fun _ h9 => h9) rfl dX7_wipe_1 ?_
  refine lv_istore_n (lv' := [(1, .int 0), (0, .ref hm)]) hx hb dX7_wipe_4 rfl hl (by decide) rfl (fun ls hl => ?_)
  refine lv_aload_n hx hb dX7_wipe_5 rfl (lv_at hl 1 rfl) ?_
  refine lv_iconst (v := 0) hx hb dX7_wipe_6 (by decide) ?_
  refine va_put (D := D) (ci := 5) (v := .int 0) (ty := .int) (C := RX7) (T := TX7) (N := 37) hx hb hT iw_TX7 tyX7 tyX7_ok nmX7 hown hK.1 hP hD hS 0 rfl rfl 8 (by decide) (hT _ wd_938) (fun _ h9 => h9) rfl (by decide +kernel) rfl rfl (Nat.le_of_ble_eq_true rfl) dX7_wipe_7 (fun H locs hP hD hS => ?_)
  have hP : va_P D gx_cl [(hm, .inr (5, [.ref (am 1), .ref (am 2), .ref (am 3), .ref (am 4), .ref (am 5), .ref (am 6), .ref (am 7), .ref (am 8), .int 0, .ref (am 9), .int 0, .ref (am 10), .int 0, .ref (am 11), .ref (am 12), .int 0, .int 0, .int 1, .null, .null, .int 0, .int 0, .int 0, .long 0, .int 0, .ref (am 13), .int 0, .int 0, .int 0, .ref (am 14), .ref (am 15), .ref (am 16), .ref (am 17), .int 0, .ref (am 18), .ref (am 19), .ref (am 20)]))] H := hP
  have hD : va_D A [(hm, .inr (5, [.ref (am 1), .ref (am 2), .ref (am 3), .ref (am 4), .ref (am 5), .ref (am 6), .ref (am 7), .ref (am 8), .int 0, .ref (am 9), .int 0, .ref (am 10), .int 0, .ref (am 11), .ref (am 12), .int 0, .int 0, .int 1, .null, .null, .int 0, .int 0, .int 0, .long 0, .int 0, .ref (am 13), .int 0, .int 0, .int 0, .ref (am 14), .ref (am 15), .ref (am 16), .ref (am 17), .int 0, .ref (am 18), .ref (am 19), .ref (am 20)]))] := hD
  refine lv_iload_n hx hb dX7_wipe_10 rfl (lv_at hl 0 rfl) ?_
  exact gx_retI C (u := ()) gx_nil gx_noneD hS (rfl) dX7_wipe_11
set_option maxHeartbeats 4000000 in
set_option maxRecDepth 100000 in
theorem m_roadOf_pub (l : Launch) (D : va_G) (k : Nat → ClassId) (hm : Nat) (am : Nat → Nat) (av : Int32) (bv : Int32) (sz : Nat) : Met l yX7_roadOf (.code yX7_roadOf cX7_roadOf 3 (some .int) :: gx_T) ({ frames := 2, cells := 0, slots := 0, locals := 47 }) (gx_Pre D k [.ref hm, .int av, .int bv] ([(hm, .inr (5, [.ref (am 1), .ref (am 2), .ref (am 3), .ref (am 4), .ref (am 5), .ref (am 6), .ref (am 7), .ref (am 8), .int 0, .ref (am 9), .int 0, .ref (am 10), .int 0, .ref (am 11), .ref (am 12), .int 0, .int 0, .int 1, .null, .null, .int 0, .int 0, .int 0, .long 0, .int 0, .ref (am 13), .int 0, .int 0, .int 0, .ref (am 14), .ref (am 15), .ref (am 16), .ref (am 17), .int 0, .ref (am 18), .ref (am 19), .ref (am 20)])), ((am 9), .inl (k 0, 8, .inl (fun _ => 0)))]) sz) (gx_Qi D (fun (r : Int32) (u : Unit) => r = -2) (fun (u : Unit) => ([] : va_W)) (va_A ([(hm, .inr (5, [.ref (am 1), .ref (am 2), .ref (am 3), .ref (am 4), .ref (am 5), .ref (am 6), .ref (am 7), .ref (am 8), .int 0, .ref (am 9), .int 0, .ref (am 10), .int 0, .ref (am 11), .ref (am 12), .int 0, .int 0, .int 1, .null, .null, .int 0, .int 0, .int 0, .long 0, .int 0, .ref (am 13), .int 0, .int 0, .int 0, .ref (am 14), .ref (am 15), .ref (am 16), .ref (am 17), .int 0, .ref (am 18), .ref (am 19), .ref (am 20)])), ((am 9), .inl (k 0, 8, .inl (fun _ => 0)))]) sz)) 0 0 (va_A ([(hm, .inr (5, [.ref (am 1), .ref (am 2), .ref (am 3), .ref (am 4), .ref (am 5), .ref (am 6), .ref (am 7), .ref (am 8), .int 0, .ref (am 9), .int 0, .ref (am 10), .int 0, .ref (am 11), .ref (am 12), .int 0, .int 0, .int 1, .null, .null, .int 0, .int 0, .int 0, .long 0, .int 0, .ref (am 13), .int 0, .int 0, .int 0, .ref (am 14), .ref (am 15), .ref (am 16), .ref (am 17), .int 0, .ref (am 18), .ref (am 19), .ref (am 20)])), ((am 9), .inl (k 0, 8, .inl (fun _ => 0)))]) sz) := by
  refine gx_metE (Qc := fun A => gx_Qi D (fun (r : Int32) (u : Unit) => r = -2) (fun (u : Unit) => ([] : va_W)) A) (y := yX7_roadOf) (cc := cX7_roadOf) (n := 3) (ret := (some .int)) (av := [.ref hm, .int av, .int bv]) (by decide) (Nat.le_of_ble_eq_true rfl) ?_
  intro p e s m below meth c A ls C hA hP hD hK hS hl
  obtain ⟨hx, hb, hr, hml, hown, hT, hlk, hin⟩ := id C
  have hown : s.vm.findClass RX7 = some m.cls := hown
  have hl : lv_has ls 3 [(0, .ref hm), (1, .int av), (2, .int bv)] := hl
  refine lv_aload_n hx hb dX7_roadOf_0 rfl (lv_at hl 0 rfl) ?_
  refine lv_iload_n hx hb dX7_roadOf_1 rfl (lv_at hl 1 rfl) ?_
  refine lv_i2l (v := (av).toInt64) hx hb dX7_roadOf_2 (rfl) ?_
  refine gx_pi hP hS (gx_runV (na := 1) (As := [.long ((av).toInt64)]) (rest := []) (ci := 5) C hl.1 hK (gx_subP (wc := ([(hm, .inr (5, [.ref (am 1), .ref (am 2), .ref (am 3), .ref (am 4), .ref (am 5), .ref (am 6), .ref (am 7), .ref (am 8), .int 0, .ref (am 9), .int 0, .ref (am 10), .int 0, .ref (am 11), .ref (am 12), .int 0, .int 0, .int 1, .null, .null, .int 0, .int 0, .int 0, .long 0, .int 0, .ref (am 13), .int 0, .int 0, .int 0, .ref (am 14), .ref (am 15), .ref (am 16), .ref (am 17), .int 0, .ref (am 18), .ref (am 19), .ref (am 20)]))] : va_W)) hP [0] rfl) ((hD.sub (ws' := ([(hm, .inr (5, [.ref (am 1), .ref (am 2), .ref (am 3), .ref (am 4), .ref (am 5), .ref (am 6), .ref (am 7), .ref (am 8), .int 0, .ref (am 9), .int 0, .ref (am 10), .int 0, .ref (am 11), .ref (am 12), .int 0, .int 0, .int 1, .null, .null, .int 0, .int 0, .int 0, .long 0, .int 0, .ref (am 13), .int 0, .int 0, .int 0, .ref (am 14), .ref (am 15), .ref (am 16), .ref (am 17), .int 0, .ref (am 18), .ref (am 19), .ref (am 20)]))] : va_W)) [0] (by decide) rfl).weaken (fun _ _ _ _ => trivial)) (m_isRoad l D k hm am av _) gV_RX7_131 (by decide +kernel) rfl rfl ⟨Nat.le_of_ble_eq_true rfl, Nat.le_of_ble_eq_true rfl⟩ rfl rfl rfl rfl (Nat.le_of_ble_eq_true rfl) dX7_roadOf_3 ⟨Nat.le_of_ble_eq_true rfl, Nat.le_of_ble_eq_true rfl⟩) (fun r_2 H locs c_1 hP hS => ?_)
  have c_1 : r_2 = 0 := c_1
  subst c_1
  refine lv_if_eq (tgt := 32) hx hb dX7_roadOf_6 (by decide) (fun c_3 => ?_) (fun c_3 => absurd (by decide) c_3)
  refine lv_aload_n hx hb dX7_roadOf_32 rfl (lv_at hl 0 rfl) ?_
  refine lv_bipush (v := (-2)) hx hb dX7_roadOf_33 (by decide) ?_
  refine gx_ei (wc := ([(hm, .inr (5, [.ref (am 1), .ref (am 2), .ref (am 3), .ref (am 4), .ref (am 5), .ref (am 6), .ref (am 7), .ref (am 8), .int 0, .ref (am 9), .int 0, .ref (am 10), .int 0, .ref (am 11), .ref (am 12), .int 0, .int 0, .int 1, .null, .null, .int 0, .int 0, .int 0, .long 0, .int 0, .ref (am 13), .int 0, .int 0, .int 0, .ref (am 14), .ref (am 15), .ref (am 16), .ref (am 17), .int 0, .ref (am 18), .ref (am 19), .ref (am 20)])), ((am 9), .inl (k 0, 8, .inl (fun _ => 0)))] : va_W)) (wr := []) (isC := [0, 1]) (isR := []) hP hD hS hA rfl rfl (by decide) (by decide) (gx_runV (na := 1) (As := [.int (-2)]) (rest := []) (ci := 5) C hl.1 hK (gx_subP (wc := ([(hm, .inr (5, [.ref (am 1), .ref (am 2), .ref (am 3), .ref (am 4), .ref (am 5), .ref (am 6), .ref (am 7), .ref (am 8), .int 0, .ref (am 9), .int 0, .ref (am 10), .int 0, .ref (am 11), .ref (am 12), .int 0, .int 0, .int 1, .null, .null, .int 0, .int 0, .int 0, .long 0, .int 0, .ref (am 13), .int 0, .int 0, .int 0, .ref (am 14), .ref (am 15), .ref (am 16), .ref (am 17), .int 0, .ref (am 18), .ref (am 19), .ref (am 20)])), ((am 9), .inl (k 0, 8, .inl (fun _ => 0)))] : va_W)) hP [0, 1] rfl) ((hD.sub (ws' := ([(hm, .inr (5, [.ref (am 1), .ref (am 2), .ref (am 3), .ref (am 4), .ref (am 5), .ref (am 6), .ref (am 7), .ref (am 8), .int 0, .ref (am 9), .int 0, .ref (am 10), .int 0, .ref (am 11), .ref (am 12), .int 0, .int 0, .int 1, .null, .null, .int 0, .int 0, .int 0, .long 0, .int 0, .ref (am 13), .int 0, .int 0, .int 0, .ref (am 14), .ref (am 15), .ref (am 16), .ref (am 17), .int 0, .ref (am 18), .ref (am 19), .ref (am 20)])), ((am 9), .inl (k 0, 8, .inl (fun _ => 0)))] : va_W)) [0, 1] (by decide) rfl).weaken (fun _ _ _ _ => trivial)) (m_refuse2 l D k hm am .null .null 0 _) gV_RX7_95 (by decide +kernel) rfl rfl ⟨Nat.le_of_ble_eq_true rfl, Nat.le_of_ble_eq_true rfl⟩ rfl rfl rfl rfl (Nat.le_of_ble_eq_true rfl) dX7_roadOf_35 ⟨Nat.le_of_ble_eq_true rfl, Nat.le_of_ble_eq_true rfl⟩) (fun r_6 u_4 H locs h_5 hP hD hS => ?_)
  have h_5 : r_6 = -2 := h_5
  have hP : va_P D gx_cl [] H := hP
  have hD : va_D A [] := hD
  have eh_5 := h_5
  subst eh_5
  exact gx_retI C (u := ()) gx_nil gx_noneD hS (rfl) dX7_roadOf_38
set_option maxHeartbeats 4000000 in
set_option maxRecDepth 100000 in
theorem m_oneOf_pub (l : Launch) (D : va_G) (k : Nat → ClassId) (hm : Nat) (am : Nat → Nat) (av : Int32) (bv : Int32) (sz : Nat) : Met l yX7_oneOf (.code yX7_oneOf cX7_oneOf 3 (some .int) :: gx_T) ({ frames := 2, cells := 0, slots := 0, locals := 46 }) (gx_Pre D k [.ref hm, .int av, .int bv] ([(hm, .inr (5, [.ref (am 1), .ref (am 2), .ref (am 3), .ref (am 4), .ref (am 5), .ref (am 6), .ref (am 7), .ref (am 8), .int 0, .ref (am 9), .int 0, .ref (am 10), .int 0, .ref (am 11), .ref (am 12), .int 0, .int 0, .int 1, .null, .null, .int 0, .int 0, .int 0, .long 0, .int 0, .ref (am 13), .int 0, .int 0, .int 0, .ref (am 14), .ref (am 15), .ref (am 16), .ref (am 17), .int 0, .ref (am 18), .ref (am 19), .ref (am 20)])), ((am 9), .inl (k 0, 8, .inl (fun _ => 0)))]) sz) (gx_Qi D (fun (r : Int32) (u : Unit) => r = -2) (fun (u : Unit) => ([] : va_W)) (va_A ([(hm, .inr (5, [.ref (am 1), .ref (am 2), .ref (am 3), .ref (am 4), .ref (am 5), .ref (am 6), .ref (am 7), .ref (am 8), .int 0, .ref (am 9), .int 0, .ref (am 10), .int 0, .ref (am 11), .ref (am 12), .int 0, .int 0, .int 1, .null, .null, .int 0, .int 0, .int 0, .long 0, .int 0, .ref (am 13), .int 0, .int 0, .int 0, .ref (am 14), .ref (am 15), .ref (am 16), .ref (am 17), .int 0, .ref (am 18), .ref (am 19), .ref (am 20)])), ((am 9), .inl (k 0, 8, .inl (fun _ => 0)))]) sz)) 0 0 (va_A ([(hm, .inr (5, [.ref (am 1), .ref (am 2), .ref (am 3), .ref (am 4), .ref (am 5), .ref (am 6), .ref (am 7), .ref (am 8), .int 0, .ref (am 9), .int 0, .ref (am 10), .int 0, .ref (am 11), .ref (am 12), .int 0, .int 0, .int 1, .null, .null, .int 0, .int 0, .int 0, .long 0, .int 0, .ref (am 13), .int 0, .int 0, .int 0, .ref (am 14), .ref (am 15), .ref (am 16), .ref (am 17), .int 0, .ref (am 18), .ref (am 19), .ref (am 20)])), ((am 9), .inl (k 0, 8, .inl (fun _ => 0)))]) sz) := by
  refine gx_metE (Qc := fun A => gx_Qi D (fun (r : Int32) (u : Unit) => r = -2) (fun (u : Unit) => ([] : va_W)) A) (y := yX7_oneOf) (cc := cX7_oneOf) (n := 3) (ret := (some .int)) (av := [.ref hm, .int av, .int bv]) (by decide) (Nat.le_of_ble_eq_true rfl) ?_
  intro p e s m below meth c A ls C hA hP hD hK hS hl
  obtain ⟨hx, hb, hr, hml, hown, hT, hlk, hin⟩ := id C
  have hown : s.vm.findClass RX7 = some m.cls := hown
  have hl : lv_has ls 3 [(0, .ref hm), (1, .int av), (2, .int bv)] := hl
  refine lv_aload_n hx hb dX7_oneOf_0 rfl (lv_at hl 0 rfl) ?_
  refine lv_iload_n hx hb dX7_oneOf_1 rfl (lv_at hl 1 rfl) ?_
  refine gx_pi hP hS (gx_runV (na := 1) (As := [.int av]) (rest := []) (ci := 5) C hl.1 hK (gx_subP (wc := ([(hm, .inr (5, [.ref (am 1), .ref (am 2), .ref (am 3), .ref (am 4), .ref (am 5), .ref (am 6), .ref (am 7), .ref (am 8), .int 0, .ref (am 9), .int 0, .ref (am 10), .int 0, .ref (am 11), .ref (am 12), .int 0, .int 0, .int 1, .null, .null, .int 0, .int 0, .int 0, .long 0, .int 0, .ref (am 13), .int 0, .int 0, .int 0, .ref (am 14), .ref (am 15), .ref (am 16), .ref (am 17), .int 0, .ref (am 18), .ref (am 19), .ref (am 20)]))] : va_W)) hP [0] rfl) ((hD.sub (ws' := ([(hm, .inr (5, [.ref (am 1), .ref (am 2), .ref (am 3), .ref (am 4), .ref (am 5), .ref (am 6), .ref (am 7), .ref (am 8), .int 0, .ref (am 9), .int 0, .ref (am 10), .int 0, .ref (am 11), .ref (am 12), .int 0, .int 0, .int 1, .null, .null, .int 0, .int 0, .int 0, .long 0, .int 0, .ref (am 13), .int 0, .int 0, .int 0, .ref (am 14), .ref (am 15), .ref (am 16), .ref (am 17), .int 0, .ref (am 18), .ref (am 19), .ref (am 20)]))] : va_W)) [0] (by decide) rfl).weaken (fun _ _ _ _ => trivial)) (m_isOne l D k hm am av _) gV_RX7_235 (by decide +kernel) rfl rfl ⟨Nat.le_of_ble_eq_true rfl, Nat.le_of_ble_eq_true rfl⟩ rfl rfl rfl rfl (Nat.le_of_ble_eq_true rfl) dX7_oneOf_2 ⟨Nat.le_of_ble_eq_true rfl, Nat.le_of_ble_eq_true rfl⟩) (fun r_2 H locs c_1 hP hS => ?_)
  have c_1 : r_2 = 0 := c_1
  subst c_1
  refine lv_if_eq (tgt := 31) hx hb dX7_oneOf_5 (by decide) (fun c_3 => ?_) (fun c_3 => absurd (by decide) c_3)
  refine lv_aload_n hx hb dX7_oneOf_31 rfl (lv_at hl 0 rfl) ?_
  refine lv_bipush (v := (-2)) hx hb dX7_oneOf_32 (by decide) ?_
  refine gx_ei (wc := ([(hm, .inr (5, [.ref (am 1), .ref (am 2), .ref (am 3), .ref (am 4), .ref (am 5), .ref (am 6), .ref (am 7), .ref (am 8), .int 0, .ref (am 9), .int 0, .ref (am 10), .int 0, .ref (am 11), .ref (am 12), .int 0, .int 0, .int 1, .null, .null, .int 0, .int 0, .int 0, .long 0, .int 0, .ref (am 13), .int 0, .int 0, .int 0, .ref (am 14), .ref (am 15), .ref (am 16), .ref (am 17), .int 0, .ref (am 18), .ref (am 19), .ref (am 20)])), ((am 9), .inl (k 0, 8, .inl (fun _ => 0)))] : va_W)) (wr := []) (isC := [0, 1]) (isR := []) hP hD hS hA rfl rfl (by decide) (by decide) (gx_runV (na := 1) (As := [.int (-2)]) (rest := []) (ci := 5) C hl.1 hK (gx_subP (wc := ([(hm, .inr (5, [.ref (am 1), .ref (am 2), .ref (am 3), .ref (am 4), .ref (am 5), .ref (am 6), .ref (am 7), .ref (am 8), .int 0, .ref (am 9), .int 0, .ref (am 10), .int 0, .ref (am 11), .ref (am 12), .int 0, .int 0, .int 1, .null, .null, .int 0, .int 0, .int 0, .long 0, .int 0, .ref (am 13), .int 0, .int 0, .int 0, .ref (am 14), .ref (am 15), .ref (am 16), .ref (am 17), .int 0, .ref (am 18), .ref (am 19), .ref (am 20)])), ((am 9), .inl (k 0, 8, .inl (fun _ => 0)))] : va_W)) hP [0, 1] rfl) ((hD.sub (ws' := ([(hm, .inr (5, [.ref (am 1), .ref (am 2), .ref (am 3), .ref (am 4), .ref (am 5), .ref (am 6), .ref (am 7), .ref (am 8), .int 0, .ref (am 9), .int 0, .ref (am 10), .int 0, .ref (am 11), .ref (am 12), .int 0, .int 0, .int 1, .null, .null, .int 0, .int 0, .int 0, .long 0, .int 0, .ref (am 13), .int 0, .int 0, .int 0, .ref (am 14), .ref (am 15), .ref (am 16), .ref (am 17), .int 0, .ref (am 18), .ref (am 19), .ref (am 20)])), ((am 9), .inl (k 0, 8, .inl (fun _ => 0)))] : va_W)) [0, 1] (by decide) rfl).weaken (fun _ _ _ _ => trivial)) (m_refuse2 l D k hm am .null .null 0 _) gV_RX7_95 (by decide +kernel) rfl rfl ⟨Nat.le_of_ble_eq_true rfl, Nat.le_of_ble_eq_true rfl⟩ rfl rfl rfl rfl (Nat.le_of_ble_eq_true rfl) dX7_oneOf_34 ⟨Nat.le_of_ble_eq_true rfl, Nat.le_of_ble_eq_true rfl⟩) (fun r_6 u_4 H locs h_5 hP hD hS => ?_)
  have h_5 : r_6 = -2 := h_5
  have hP : va_P D gx_cl [] H := hP
  have hD : va_D A [] := hD
  have eh_5 := h_5
  subst eh_5
  exact gx_retI C (u := ()) gx_nil gx_noneD hS (rfl) dX7_oneOf_37
set_option maxHeartbeats 4000000 in
set_option maxRecDepth 100000 in
theorem m_when_pub (l : Launch) (D : va_G) (k : Nat → ClassId) (hm : Nat) (am : Nat → Nat) (av : Int32) (bv : Int32) (sz : Nat) : Met l yX7_when (.code yX7_when cX7_when 3 (some .int) :: gx_T) ({ frames := 2, cells := 0, slots := 0, locals := 46 }) (gx_Pre D k [.ref hm, .int av, .int bv] ([(hm, .inr (5, [.ref (am 1), .ref (am 2), .ref (am 3), .ref (am 4), .ref (am 5), .ref (am 6), .ref (am 7), .ref (am 8), .int 0, .ref (am 9), .int 0, .ref (am 10), .int 0, .ref (am 11), .ref (am 12), .int 0, .int 0, .int 1, .null, .null, .int 0, .int 0, .int 0, .long 0, .int 0, .ref (am 13), .int 0, .int 0, .int 0, .ref (am 14), .ref (am 15), .ref (am 16), .ref (am 17), .int 0, .ref (am 18), .ref (am 19), .ref (am 20)])), ((am 9), .inl (k 0, 8, .inl (fun _ => 0)))]) sz) (gx_Qi D (fun (r : Int32) (u : Unit) => r = -2) (fun (u : Unit) => ([] : va_W)) (va_A ([(hm, .inr (5, [.ref (am 1), .ref (am 2), .ref (am 3), .ref (am 4), .ref (am 5), .ref (am 6), .ref (am 7), .ref (am 8), .int 0, .ref (am 9), .int 0, .ref (am 10), .int 0, .ref (am 11), .ref (am 12), .int 0, .int 0, .int 1, .null, .null, .int 0, .int 0, .int 0, .long 0, .int 0, .ref (am 13), .int 0, .int 0, .int 0, .ref (am 14), .ref (am 15), .ref (am 16), .ref (am 17), .int 0, .ref (am 18), .ref (am 19), .ref (am 20)])), ((am 9), .inl (k 0, 8, .inl (fun _ => 0)))]) sz)) 0 0 (va_A ([(hm, .inr (5, [.ref (am 1), .ref (am 2), .ref (am 3), .ref (am 4), .ref (am 5), .ref (am 6), .ref (am 7), .ref (am 8), .int 0, .ref (am 9), .int 0, .ref (am 10), .int 0, .ref (am 11), .ref (am 12), .int 0, .int 0, .int 1, .null, .null, .int 0, .int 0, .int 0, .long 0, .int 0, .ref (am 13), .int 0, .int 0, .int 0, .ref (am 14), .ref (am 15), .ref (am 16), .ref (am 17), .int 0, .ref (am 18), .ref (am 19), .ref (am 20)])), ((am 9), .inl (k 0, 8, .inl (fun _ => 0)))]) sz) := by
  refine gx_metE (Qc := fun A => gx_Qi D (fun (r : Int32) (u : Unit) => r = -2) (fun (u : Unit) => ([] : va_W)) A) (y := yX7_when) (cc := cX7_when) (n := 3) (ret := (some .int)) (av := [.ref hm, .int av, .int bv]) (by decide) (Nat.le_of_ble_eq_true rfl) ?_
  intro p e s m below meth c A ls C hA hP hD hK hS hl
  obtain ⟨hx, hb, hr, hml, hown, hT, hlk, hin⟩ := id C
  have hown : s.vm.findClass RX7 = some m.cls := hown
  have hl : lv_has ls 3 [(0, .ref hm), (1, .int av), (2, .int bv)] := hl
  refine lv_aload_n hx hb dX7_when_0 rfl (lv_at hl 0 rfl) ?_
  refine lv_iload_n hx hb dX7_when_1 rfl (lv_at hl 1 rfl) ?_
  refine gx_pi hP hS (gx_runV (na := 1) (As := [.int av]) (rest := []) (ci := 5) C hl.1 hK (gx_subP (wc := ([(hm, .inr (5, [.ref (am 1), .ref (am 2), .ref (am 3), .ref (am 4), .ref (am 5), .ref (am 6), .ref (am 7), .ref (am 8), .int 0, .ref (am 9), .int 0, .ref (am 10), .int 0, .ref (am 11), .ref (am 12), .int 0, .int 0, .int 1, .null, .null, .int 0, .int 0, .int 0, .long 0, .int 0, .ref (am 13), .int 0, .int 0, .int 0, .ref (am 14), .ref (am 15), .ref (am 16), .ref (am 17), .int 0, .ref (am 18), .ref (am 19), .ref (am 20)]))] : va_W)) hP [0] rfl) ((hD.sub (ws' := ([(hm, .inr (5, [.ref (am 1), .ref (am 2), .ref (am 3), .ref (am 4), .ref (am 5), .ref (am 6), .ref (am 7), .ref (am 8), .int 0, .ref (am 9), .int 0, .ref (am 10), .int 0, .ref (am 11), .ref (am 12), .int 0, .int 0, .int 1, .null, .null, .int 0, .int 0, .int 0, .long 0, .int 0, .ref (am 13), .int 0, .int 0, .int 0, .ref (am 14), .ref (am 15), .ref (am 16), .ref (am 17), .int 0, .ref (am 18), .ref (am 19), .ref (am 20)]))] : va_W)) [0] (by decide) rfl).weaken (fun _ _ _ _ => trivial)) (m_isOne l D k hm am av _) gV_RX7_235 (by decide +kernel) rfl rfl ⟨Nat.le_of_ble_eq_true rfl, Nat.le_of_ble_eq_true rfl⟩ rfl rfl rfl rfl (Nat.le_of_ble_eq_true rfl) dX7_when_2 ⟨Nat.le_of_ble_eq_true rfl, Nat.le_of_ble_eq_true rfl⟩) (fun r_2 H locs c_1 hP hS => ?_)
  have c_1 : r_2 = 0 := c_1
  subst c_1
  refine lv_if_eq (tgt := 28) hx hb dX7_when_5 (by decide) (fun c_3 => ?_) (fun c_3 => absurd (by decide) c_3)
  refine lv_aload_n hx hb dX7_when_28 rfl (lv_at hl 0 rfl) ?_
  refine lv_bipush (v := (-2)) hx hb dX7_when_29 (by decide) ?_
  refine gx_ei (wc := ([(hm, .inr (5, [.ref (am 1), .ref (am 2), .ref (am 3), .ref (am 4), .ref (am 5), .ref (am 6), .ref (am 7), .ref (am 8), .int 0, .ref (am 9), .int 0, .ref (am 10), .int 0, .ref (am 11), .ref (am 12), .int 0, .int 0, .int 1, .null, .null, .int 0, .int 0, .int 0, .long 0, .int 0, .ref (am 13), .int 0, .int 0, .int 0, .ref (am 14), .ref (am 15), .ref (am 16), .ref (am 17), .int 0, .ref (am 18), .ref (am 19), .ref (am 20)])), ((am 9), .inl (k 0, 8, .inl (fun _ => 0)))] : va_W)) (wr := []) (isC := [0, 1]) (isR := []) hP hD hS hA rfl rfl (by decide) (by decide) (gx_runV (na := 1) (As := [.int (-2)]) (rest := []) (ci := 5) C hl.1 hK (gx_subP (wc := ([(hm, .inr (5, [.ref (am 1), .ref (am 2), .ref (am 3), .ref (am 4), .ref (am 5), .ref (am 6), .ref (am 7), .ref (am 8), .int 0, .ref (am 9), .int 0, .ref (am 10), .int 0, .ref (am 11), .ref (am 12), .int 0, .int 0, .int 1, .null, .null, .int 0, .int 0, .int 0, .long 0, .int 0, .ref (am 13), .int 0, .int 0, .int 0, .ref (am 14), .ref (am 15), .ref (am 16), .ref (am 17), .int 0, .ref (am 18), .ref (am 19), .ref (am 20)])), ((am 9), .inl (k 0, 8, .inl (fun _ => 0)))] : va_W)) hP [0, 1] rfl) ((hD.sub (ws' := ([(hm, .inr (5, [.ref (am 1), .ref (am 2), .ref (am 3), .ref (am 4), .ref (am 5), .ref (am 6), .ref (am 7), .ref (am 8), .int 0, .ref (am 9), .int 0, .ref (am 10), .int 0, .ref (am 11), .ref (am 12), .int 0, .int 0, .int 1, .null, .null, .int 0, .int 0, .int 0, .long 0, .int 0, .ref (am 13), .int 0, .int 0, .int 0, .ref (am 14), .ref (am 15), .ref (am 16), .ref (am 17), .int 0, .ref (am 18), .ref (am 19), .ref (am 20)])), ((am 9), .inl (k 0, 8, .inl (fun _ => 0)))] : va_W)) [0, 1] (by decide) rfl).weaken (fun _ _ _ _ => trivial)) (m_refuse2 l D k hm am .null .null 0 _) gV_RX7_95 (by decide +kernel) rfl rfl ⟨Nat.le_of_ble_eq_true rfl, Nat.le_of_ble_eq_true rfl⟩ rfl rfl rfl rfl (Nat.le_of_ble_eq_true rfl) dX7_when_31 ⟨Nat.le_of_ble_eq_true rfl, Nat.le_of_ble_eq_true rfl⟩) (fun r_6 u_4 H locs h_5 hP hD hS => ?_)
  have h_5 : r_6 = -2 := h_5
  have hP : va_P D gx_cl [] H := hP
  have hD : va_D A [] := hD
  have eh_5 := h_5
  subst eh_5
  exact gx_retI C (u := ()) gx_nil gx_noneD hS (rfl) dX7_when_34
set_option maxHeartbeats 4000000 in
set_option maxRecDepth 100000 in
theorem m_left_pub (l : Launch) (D : va_G) (k : Nat → ClassId) (hm : Nat) (am : Nat → Nat) (av : Int32) (sz : Nat) : Met l yX7_left (.code yX7_left cX7_left 2 (some .int) :: gx_T) ({ frames := 2, cells := 0, slots := 0, locals := 46 }) (gx_Pre D k [.ref hm, .int av] ([(hm, .inr (5, [.ref (am 1), .ref (am 2), .ref (am 3), .ref (am 4), .ref (am 5), .ref (am 6), .ref (am 7), .ref (am 8), .int 0, .ref (am 9), .int 0, .ref (am 10), .int 0, .ref (am 11), .ref (am 12), .int 0, .int 0, .int 1, .null, .null, .int 0, .int 0, .int 0, .long 0, .int 0, .ref (am 13), .int 0, .int 0, .int 0, .ref (am 14), .ref (am 15), .ref (am 16), .ref (am 17), .int 0, .ref (am 18), .ref (am 19), .ref (am 20)])), ((am 9), .inl (k 0, 8, .inl (fun _ => 0)))]) sz) (gx_Qi D (fun (r : Int32) (u : Unit) => r = -2) (fun (u : Unit) => ([] : va_W)) (va_A ([(hm, .inr (5, [.ref (am 1), .ref (am 2), .ref (am 3), .ref (am 4), .ref (am 5), .ref (am 6), .ref (am 7), .ref (am 8), .int 0, .ref (am 9), .int 0, .ref (am 10), .int 0, .ref (am 11), .ref (am 12), .int 0, .int 0, .int 1, .null, .null, .int 0, .int 0, .int 0, .long 0, .int 0, .ref (am 13), .int 0, .int 0, .int 0, .ref (am 14), .ref (am 15), .ref (am 16), .ref (am 17), .int 0, .ref (am 18), .ref (am 19), .ref (am 20)])), ((am 9), .inl (k 0, 8, .inl (fun _ => 0)))]) sz)) 0 0 (va_A ([(hm, .inr (5, [.ref (am 1), .ref (am 2), .ref (am 3), .ref (am 4), .ref (am 5), .ref (am 6), .ref (am 7), .ref (am 8), .int 0, .ref (am 9), .int 0, .ref (am 10), .int 0, .ref (am 11), .ref (am 12), .int 0, .int 0, .int 1, .null, .null, .int 0, .int 0, .int 0, .long 0, .int 0, .ref (am 13), .int 0, .int 0, .int 0, .ref (am 14), .ref (am 15), .ref (am 16), .ref (am 17), .int 0, .ref (am 18), .ref (am 19), .ref (am 20)])), ((am 9), .inl (k 0, 8, .inl (fun _ => 0)))]) sz) := by
  refine gx_metE (Qc := fun A => gx_Qi D (fun (r : Int32) (u : Unit) => r = -2) (fun (u : Unit) => ([] : va_W)) A) (y := yX7_left) (cc := cX7_left) (n := 2) (ret := (some .int)) (av := [.ref hm, .int av]) (by decide) (Nat.le_of_ble_eq_true rfl) ?_
  intro p e s m below meth c A ls C hA hP hD hK hS hl
  obtain ⟨hx, hb, hr, hml, hown, hT, hlk, hin⟩ := id C
  have hown : s.vm.findClass RX7 = some m.cls := hown
  have hl : lv_has ls 2 [(0, .ref hm), (1, .int av)] := hl
  refine lv_aload_n hx hb dX7_left_0 rfl (lv_at hl 0 rfl) ?_
  refine lv_iload_n hx hb dX7_left_1 rfl (lv_at hl 1 rfl) ?_
  refine gx_pi hP hS (gx_runV (na := 1) (As := [.int av]) (rest := []) (ci := 5) C hl.1 hK (gx_subP (wc := ([(hm, .inr (5, [.ref (am 1), .ref (am 2), .ref (am 3), .ref (am 4), .ref (am 5), .ref (am 6), .ref (am 7), .ref (am 8), .int 0, .ref (am 9), .int 0, .ref (am 10), .int 0, .ref (am 11), .ref (am 12), .int 0, .int 0, .int 1, .null, .null, .int 0, .int 0, .int 0, .long 0, .int 0, .ref (am 13), .int 0, .int 0, .int 0, .ref (am 14), .ref (am 15), .ref (am 16), .ref (am 17), .int 0, .ref (am 18), .ref (am 19), .ref (am 20)]))] : va_W)) hP [0] rfl) ((hD.sub (ws' := ([(hm, .inr (5, [.ref (am 1), .ref (am 2), .ref (am 3), .ref (am 4), .ref (am 5), .ref (am 6), .ref (am 7), .ref (am 8), .int 0, .ref (am 9), .int 0, .ref (am 10), .int 0, .ref (am 11), .ref (am 12), .int 0, .int 0, .int 1, .null, .null, .int 0, .int 0, .int 0, .long 0, .int 0, .ref (am 13), .int 0, .int 0, .int 0, .ref (am 14), .ref (am 15), .ref (am 16), .ref (am 17), .int 0, .ref (am 18), .ref (am 19), .ref (am 20)]))] : va_W)) [0] (by decide) rfl).weaken (fun _ _ _ _ => trivial)) (m_isOne l D k hm am av _) gV_RX7_235 (by decide +kernel) rfl rfl ⟨Nat.le_of_ble_eq_true rfl, Nat.le_of_ble_eq_true rfl⟩ rfl rfl rfl rfl (Nat.le_of_ble_eq_true rfl) dX7_left_2 ⟨Nat.le_of_ble_eq_true rfl, Nat.le_of_ble_eq_true rfl⟩) (fun r_2 H locs c_1 hP hS => ?_)
  have c_1 : r_2 = 0 := c_1
  subst c_1
  refine lv_if_eq (tgt := 16) hx hb dX7_left_5 (by decide) (fun c_3 => ?_) (fun c_3 => absurd (by decide) c_3)
  refine lv_aload_n hx hb dX7_left_16 rfl (lv_at hl 0 rfl) ?_
  refine lv_bipush (v := (-2)) hx hb dX7_left_17 (by decide) ?_
  refine gx_ei (wc := ([(hm, .inr (5, [.ref (am 1), .ref (am 2), .ref (am 3), .ref (am 4), .ref (am 5), .ref (am 6), .ref (am 7), .ref (am 8), .int 0, .ref (am 9), .int 0, .ref (am 10), .int 0, .ref (am 11), .ref (am 12), .int 0, .int 0, .int 1, .null, .null, .int 0, .int 0, .int 0, .long 0, .int 0, .ref (am 13), .int 0, .int 0, .int 0, .ref (am 14), .ref (am 15), .ref (am 16), .ref (am 17), .int 0, .ref (am 18), .ref (am 19), .ref (am 20)])), ((am 9), .inl (k 0, 8, .inl (fun _ => 0)))] : va_W)) (wr := []) (isC := [0, 1]) (isR := []) hP hD hS hA rfl rfl (by decide) (by decide) (gx_runV (na := 1) (As := [.int (-2)]) (rest := []) (ci := 5) C hl.1 hK (gx_subP (wc := ([(hm, .inr (5, [.ref (am 1), .ref (am 2), .ref (am 3), .ref (am 4), .ref (am 5), .ref (am 6), .ref (am 7), .ref (am 8), .int 0, .ref (am 9), .int 0, .ref (am 10), .int 0, .ref (am 11), .ref (am 12), .int 0, .int 0, .int 1, .null, .null, .int 0, .int 0, .int 0, .long 0, .int 0, .ref (am 13), .int 0, .int 0, .int 0, .ref (am 14), .ref (am 15), .ref (am 16), .ref (am 17), .int 0, .ref (am 18), .ref (am 19), .ref (am 20)])), ((am 9), .inl (k 0, 8, .inl (fun _ => 0)))] : va_W)) hP [0, 1] rfl) ((hD.sub (ws' := ([(hm, .inr (5, [.ref (am 1), .ref (am 2), .ref (am 3), .ref (am 4), .ref (am 5), .ref (am 6), .ref (am 7), .ref (am 8), .int 0, .ref (am 9), .int 0, .ref (am 10), .int 0, .ref (am 11), .ref (am 12), .int 0, .int 0, .int 1, .null, .null, .int 0, .int 0, .int 0, .long 0, .int 0, .ref (am 13), .int 0, .int 0, .int 0, .ref (am 14), .ref (am 15), .ref (am 16), .ref (am 17), .int 0, .ref (am 18), .ref (am 19), .ref (am 20)])), ((am 9), .inl (k 0, 8, .inl (fun _ => 0)))] : va_W)) [0, 1] (by decide) rfl).weaken (fun _ _ _ _ => trivial)) (m_refuse2 l D k hm am .null .null 0 _) gV_RX7_95 (by decide +kernel) rfl rfl ⟨Nat.le_of_ble_eq_true rfl, Nat.le_of_ble_eq_true rfl⟩ rfl rfl rfl rfl (Nat.le_of_ble_eq_true rfl) dX7_left_19 ⟨Nat.le_of_ble_eq_true rfl, Nat.le_of_ble_eq_true rfl⟩) (fun r_6 u_4 H locs h_5 hP hD hS => ?_)
  have h_5 : r_6 = -2 := h_5
  have hP : va_P D gx_cl [] H := hP
  have hD : va_D A [] := hD
  have eh_5 := h_5
  subst eh_5
  exact gx_retI C (u := ()) gx_nil gx_noneD hS (rfl) dX7_left_22
set_option maxHeartbeats 4000000 in
set_option maxRecDepth 100000 in
theorem m_here_pub (l : Launch) (D : va_G) (k : Nat → ClassId) (hm : Nat) (am : Nat → Nat) (av : Int32) (sz : Nat) : Met l yX7_here (.code yX7_here cX7_here 2 (some .int) :: gx_T) ({ frames := 2, cells := 0, slots := 0, locals := 46 }) (gx_Pre D k [.ref hm, .int av] ([(hm, .inr (5, [.ref (am 1), .ref (am 2), .ref (am 3), .ref (am 4), .ref (am 5), .ref (am 6), .ref (am 7), .ref (am 8), .int 0, .ref (am 9), .int 0, .ref (am 10), .int 0, .ref (am 11), .ref (am 12), .int 0, .int 0, .int 1, .null, .null, .int 0, .int 0, .int 0, .long 0, .int 0, .ref (am 13), .int 0, .int 0, .int 0, .ref (am 14), .ref (am 15), .ref (am 16), .ref (am 17), .int 0, .ref (am 18), .ref (am 19), .ref (am 20)])), ((am 9), .inl (k 0, 8, .inl (fun _ => 0)))]) sz) (gx_Qi D (fun (r : Int32) (u : Unit) => r = -2) (fun (u : Unit) => ([] : va_W)) (va_A ([(hm, .inr (5, [.ref (am 1), .ref (am 2), .ref (am 3), .ref (am 4), .ref (am 5), .ref (am 6), .ref (am 7), .ref (am 8), .int 0, .ref (am 9), .int 0, .ref (am 10), .int 0, .ref (am 11), .ref (am 12), .int 0, .int 0, .int 1, .null, .null, .int 0, .int 0, .int 0, .long 0, .int 0, .ref (am 13), .int 0, .int 0, .int 0, .ref (am 14), .ref (am 15), .ref (am 16), .ref (am 17), .int 0, .ref (am 18), .ref (am 19), .ref (am 20)])), ((am 9), .inl (k 0, 8, .inl (fun _ => 0)))]) sz)) 0 0 (va_A ([(hm, .inr (5, [.ref (am 1), .ref (am 2), .ref (am 3), .ref (am 4), .ref (am 5), .ref (am 6), .ref (am 7), .ref (am 8), .int 0, .ref (am 9), .int 0, .ref (am 10), .int 0, .ref (am 11), .ref (am 12), .int 0, .int 0, .int 1, .null, .null, .int 0, .int 0, .int 0, .long 0, .int 0, .ref (am 13), .int 0, .int 0, .int 0, .ref (am 14), .ref (am 15), .ref (am 16), .ref (am 17), .int 0, .ref (am 18), .ref (am 19), .ref (am 20)])), ((am 9), .inl (k 0, 8, .inl (fun _ => 0)))]) sz) := by
  refine gx_metE (Qc := fun A => gx_Qi D (fun (r : Int32) (u : Unit) => r = -2) (fun (u : Unit) => ([] : va_W)) A) (y := yX7_here) (cc := cX7_here) (n := 2) (ret := (some .int)) (av := [.ref hm, .int av]) (by decide) (Nat.le_of_ble_eq_true rfl) ?_
  intro p e s m below meth c A ls C hA hP hD hK hS hl
  obtain ⟨hx, hb, hr, hml, hown, hT, hlk, hin⟩ := id C
  have hown : s.vm.findClass RX7 = some m.cls := hown
  have hl : lv_has ls 2 [(0, .ref hm), (1, .int av)] := hl
  refine lv_aload_n hx hb dX7_here_0 rfl (lv_at hl 0 rfl) ?_
  refine lv_iload_n hx hb dX7_here_1 rfl (lv_at hl 1 rfl) ?_
  refine gx_pi hP hS (gx_runV (na := 1) (As := [.int av]) (rest := []) (ci := 5) C hl.1 hK (gx_subP (wc := ([(hm, .inr (5, [.ref (am 1), .ref (am 2), .ref (am 3), .ref (am 4), .ref (am 5), .ref (am 6), .ref (am 7), .ref (am 8), .int 0, .ref (am 9), .int 0, .ref (am 10), .int 0, .ref (am 11), .ref (am 12), .int 0, .int 0, .int 1, .null, .null, .int 0, .int 0, .int 0, .long 0, .int 0, .ref (am 13), .int 0, .int 0, .int 0, .ref (am 14), .ref (am 15), .ref (am 16), .ref (am 17), .int 0, .ref (am 18), .ref (am 19), .ref (am 20)]))] : va_W)) hP [0] rfl) ((hD.sub (ws' := ([(hm, .inr (5, [.ref (am 1), .ref (am 2), .ref (am 3), .ref (am 4), .ref (am 5), .ref (am 6), .ref (am 7), .ref (am 8), .int 0, .ref (am 9), .int 0, .ref (am 10), .int 0, .ref (am 11), .ref (am 12), .int 0, .int 0, .int 1, .null, .null, .int 0, .int 0, .int 0, .long 0, .int 0, .ref (am 13), .int 0, .int 0, .int 0, .ref (am 14), .ref (am 15), .ref (am 16), .ref (am 17), .int 0, .ref (am 18), .ref (am 19), .ref (am 20)]))] : va_W)) [0] (by decide) rfl).weaken (fun _ _ _ _ => trivial)) (m_isOne l D k hm am av _) gV_RX7_235 (by decide +kernel) rfl rfl ⟨Nat.le_of_ble_eq_true rfl, Nat.le_of_ble_eq_true rfl⟩ rfl rfl rfl rfl (Nat.le_of_ble_eq_true rfl) dX7_here_2 ⟨Nat.le_of_ble_eq_true rfl, Nat.le_of_ble_eq_true rfl⟩) (fun r_2 H locs c_1 hP hS => ?_)
  have c_1 : r_2 = 0 := c_1
  subst c_1
  refine lv_if_eq (tgt := 16) hx hb dX7_here_5 (by decide) (fun c_3 => ?_) (fun c_3 => absurd (by decide) c_3)
  refine lv_aload_n hx hb dX7_here_16 rfl (lv_at hl 0 rfl) ?_
  refine lv_bipush (v := (-2)) hx hb dX7_here_17 (by decide) ?_
  refine gx_ei (wc := ([(hm, .inr (5, [.ref (am 1), .ref (am 2), .ref (am 3), .ref (am 4), .ref (am 5), .ref (am 6), .ref (am 7), .ref (am 8), .int 0, .ref (am 9), .int 0, .ref (am 10), .int 0, .ref (am 11), .ref (am 12), .int 0, .int 0, .int 1, .null, .null, .int 0, .int 0, .int 0, .long 0, .int 0, .ref (am 13), .int 0, .int 0, .int 0, .ref (am 14), .ref (am 15), .ref (am 16), .ref (am 17), .int 0, .ref (am 18), .ref (am 19), .ref (am 20)])), ((am 9), .inl (k 0, 8, .inl (fun _ => 0)))] : va_W)) (wr := []) (isC := [0, 1]) (isR := []) hP hD hS hA rfl rfl (by decide) (by decide) (gx_runV (na := 1) (As := [.int (-2)]) (rest := []) (ci := 5) C hl.1 hK (gx_subP (wc := ([(hm, .inr (5, [.ref (am 1), .ref (am 2), .ref (am 3), .ref (am 4), .ref (am 5), .ref (am 6), .ref (am 7), .ref (am 8), .int 0, .ref (am 9), .int 0, .ref (am 10), .int 0, .ref (am 11), .ref (am 12), .int 0, .int 0, .int 1, .null, .null, .int 0, .int 0, .int 0, .long 0, .int 0, .ref (am 13), .int 0, .int 0, .int 0, .ref (am 14), .ref (am 15), .ref (am 16), .ref (am 17), .int 0, .ref (am 18), .ref (am 19), .ref (am 20)])), ((am 9), .inl (k 0, 8, .inl (fun _ => 0)))] : va_W)) hP [0, 1] rfl) ((hD.sub (ws' := ([(hm, .inr (5, [.ref (am 1), .ref (am 2), .ref (am 3), .ref (am 4), .ref (am 5), .ref (am 6), .ref (am 7), .ref (am 8), .int 0, .ref (am 9), .int 0, .ref (am 10), .int 0, .ref (am 11), .ref (am 12), .int 0, .int 0, .int 1, .null, .null, .int 0, .int 0, .int 0, .long 0, .int 0, .ref (am 13), .int 0, .int 0, .int 0, .ref (am 14), .ref (am 15), .ref (am 16), .ref (am 17), .int 0, .ref (am 18), .ref (am 19), .ref (am 20)])), ((am 9), .inl (k 0, 8, .inl (fun _ => 0)))] : va_W)) [0, 1] (by decide) rfl).weaken (fun _ _ _ _ => trivial)) (m_refuse2 l D k hm am .null .null 0 _) gV_RX7_95 (by decide +kernel) rfl rfl ⟨Nat.le_of_ble_eq_true rfl, Nat.le_of_ble_eq_true rfl⟩ rfl rfl rfl rfl (Nat.le_of_ble_eq_true rfl) dX7_here_19 ⟨Nat.le_of_ble_eq_true rfl, Nat.le_of_ble_eq_true rfl⟩) (fun r_6 u_4 H locs h_5 hP hD hS => ?_)
  have h_5 : r_6 = -2 := h_5
  have hP : va_P D gx_cl [] H := hP
  have hD : va_D A [] := hD
  have eh_5 := h_5
  subst eh_5
  exact gx_retI C (u := ()) gx_nil gx_noneD hS (rfl) dX7_here_22
set_option maxHeartbeats 4000000 in
set_option maxRecDepth 100000 in
theorem m_reach_pub (l : Launch) (D : va_G) (k : Nat → ClassId) (hm : Nat) (am : Nat → Nat) (av : Int32) (sz : Nat) : Met l yX7_reach (.code yX7_reach cX7_reach 2 (some .int) :: gx_T) ({ frames := 2, cells := 0, slots := 0, locals := 46 }) (gx_Pre D k [.ref hm, .int av] ([(hm, .inr (5, [.ref (am 1), .ref (am 2), .ref (am 3), .ref (am 4), .ref (am 5), .ref (am 6), .ref (am 7), .ref (am 8), .int 0, .ref (am 9), .int 0, .ref (am 10), .int 0, .ref (am 11), .ref (am 12), .int 0, .int 0, .int 1, .null, .null, .int 0, .int 0, .int 0, .long 0, .int 0, .ref (am 13), .int 0, .int 0, .int 0, .ref (am 14), .ref (am 15), .ref (am 16), .ref (am 17), .int 0, .ref (am 18), .ref (am 19), .ref (am 20)])), ((am 9), .inl (k 0, 8, .inl (fun _ => 0)))]) sz) (gx_Qi D (fun (r : Int32) (u : Unit) => r = -2) (fun (u : Unit) => ([] : va_W)) (va_A ([(hm, .inr (5, [.ref (am 1), .ref (am 2), .ref (am 3), .ref (am 4), .ref (am 5), .ref (am 6), .ref (am 7), .ref (am 8), .int 0, .ref (am 9), .int 0, .ref (am 10), .int 0, .ref (am 11), .ref (am 12), .int 0, .int 0, .int 1, .null, .null, .int 0, .int 0, .int 0, .long 0, .int 0, .ref (am 13), .int 0, .int 0, .int 0, .ref (am 14), .ref (am 15), .ref (am 16), .ref (am 17), .int 0, .ref (am 18), .ref (am 19), .ref (am 20)])), ((am 9), .inl (k 0, 8, .inl (fun _ => 0)))]) sz)) 0 0 (va_A ([(hm, .inr (5, [.ref (am 1), .ref (am 2), .ref (am 3), .ref (am 4), .ref (am 5), .ref (am 6), .ref (am 7), .ref (am 8), .int 0, .ref (am 9), .int 0, .ref (am 10), .int 0, .ref (am 11), .ref (am 12), .int 0, .int 0, .int 1, .null, .null, .int 0, .int 0, .int 0, .long 0, .int 0, .ref (am 13), .int 0, .int 0, .int 0, .ref (am 14), .ref (am 15), .ref (am 16), .ref (am 17), .int 0, .ref (am 18), .ref (am 19), .ref (am 20)])), ((am 9), .inl (k 0, 8, .inl (fun _ => 0)))]) sz) := by
  refine gx_metE (Qc := fun A => gx_Qi D (fun (r : Int32) (u : Unit) => r = -2) (fun (u : Unit) => ([] : va_W)) A) (y := yX7_reach) (cc := cX7_reach) (n := 2) (ret := (some .int)) (av := [.ref hm, .int av]) (by decide) (Nat.le_of_ble_eq_true rfl) ?_
  intro p e s m below meth c A ls C hA hP hD hK hS hl
  obtain ⟨hx, hb, hr, hml, hown, hT, hlk, hin⟩ := id C
  have hown : s.vm.findClass RX7 = some m.cls := hown
  have hl : lv_has ls 2 [(0, .ref hm), (1, .int av)] := hl
  refine lv_aload_n hx hb dX7_reach_0 rfl (lv_at hl 0 rfl) ?_
  refine lv_iload_n hx hb dX7_reach_1 rfl (lv_at hl 1 rfl) ?_
  refine gx_pi hP hS (gx_runV (na := 1) (As := [.int av]) (rest := []) (ci := 5) C hl.1 hK (gx_subP (wc := ([(hm, .inr (5, [.ref (am 1), .ref (am 2), .ref (am 3), .ref (am 4), .ref (am 5), .ref (am 6), .ref (am 7), .ref (am 8), .int 0, .ref (am 9), .int 0, .ref (am 10), .int 0, .ref (am 11), .ref (am 12), .int 0, .int 0, .int 1, .null, .null, .int 0, .int 0, .int 0, .long 0, .int 0, .ref (am 13), .int 0, .int 0, .int 0, .ref (am 14), .ref (am 15), .ref (am 16), .ref (am 17), .int 0, .ref (am 18), .ref (am 19), .ref (am 20)]))] : va_W)) hP [0] rfl) ((hD.sub (ws' := ([(hm, .inr (5, [.ref (am 1), .ref (am 2), .ref (am 3), .ref (am 4), .ref (am 5), .ref (am 6), .ref (am 7), .ref (am 8), .int 0, .ref (am 9), .int 0, .ref (am 10), .int 0, .ref (am 11), .ref (am 12), .int 0, .int 0, .int 1, .null, .null, .int 0, .int 0, .int 0, .long 0, .int 0, .ref (am 13), .int 0, .int 0, .int 0, .ref (am 14), .ref (am 15), .ref (am 16), .ref (am 17), .int 0, .ref (am 18), .ref (am 19), .ref (am 20)]))] : va_W)) [0] (by decide) rfl).weaken (fun _ _ _ _ => trivial)) (m_isOne l D k hm am av _) gV_RX7_235 (by decide +kernel) rfl rfl ⟨Nat.le_of_ble_eq_true rfl, Nat.le_of_ble_eq_true rfl⟩ rfl rfl rfl rfl (Nat.le_of_ble_eq_true rfl) dX7_reach_2 ⟨Nat.le_of_ble_eq_true rfl, Nat.le_of_ble_eq_true rfl⟩) (fun r_2 H locs c_1 hP hS => ?_)
  have c_1 : r_2 = 0 := c_1
  subst c_1
  refine lv_if_eq (tgt := 28) hx hb dX7_reach_5 (by decide) (fun c_3 => ?_) (fun c_3 => absurd (by decide) c_3)
  refine lv_aload_n hx hb dX7_reach_28 rfl (lv_at hl 0 rfl) ?_
  refine lv_bipush (v := (-2)) hx hb dX7_reach_29 (by decide) ?_
  refine gx_ei (wc := ([(hm, .inr (5, [.ref (am 1), .ref (am 2), .ref (am 3), .ref (am 4), .ref (am 5), .ref (am 6), .ref (am 7), .ref (am 8), .int 0, .ref (am 9), .int 0, .ref (am 10), .int 0, .ref (am 11), .ref (am 12), .int 0, .int 0, .int 1, .null, .null, .int 0, .int 0, .int 0, .long 0, .int 0, .ref (am 13), .int 0, .int 0, .int 0, .ref (am 14), .ref (am 15), .ref (am 16), .ref (am 17), .int 0, .ref (am 18), .ref (am 19), .ref (am 20)])), ((am 9), .inl (k 0, 8, .inl (fun _ => 0)))] : va_W)) (wr := []) (isC := [0, 1]) (isR := []) hP hD hS hA rfl rfl (by decide) (by decide) (gx_runV (na := 1) (As := [.int (-2)]) (rest := []) (ci := 5) C hl.1 hK (gx_subP (wc := ([(hm, .inr (5, [.ref (am 1), .ref (am 2), .ref (am 3), .ref (am 4), .ref (am 5), .ref (am 6), .ref (am 7), .ref (am 8), .int 0, .ref (am 9), .int 0, .ref (am 10), .int 0, .ref (am 11), .ref (am 12), .int 0, .int 0, .int 1, .null, .null, .int 0, .int 0, .int 0, .long 0, .int 0, .ref (am 13), .int 0, .int 0, .int 0, .ref (am 14), .ref (am 15), .ref (am 16), .ref (am 17), .int 0, .ref (am 18), .ref (am 19), .ref (am 20)])), ((am 9), .inl (k 0, 8, .inl (fun _ => 0)))] : va_W)) hP [0, 1] rfl) ((hD.sub (ws' := ([(hm, .inr (5, [.ref (am 1), .ref (am 2), .ref (am 3), .ref (am 4), .ref (am 5), .ref (am 6), .ref (am 7), .ref (am 8), .int 0, .ref (am 9), .int 0, .ref (am 10), .int 0, .ref (am 11), .ref (am 12), .int 0, .int 0, .int 1, .null, .null, .int 0, .int 0, .int 0, .long 0, .int 0, .ref (am 13), .int 0, .int 0, .int 0, .ref (am 14), .ref (am 15), .ref (am 16), .ref (am 17), .int 0, .ref (am 18), .ref (am 19), .ref (am 20)])), ((am 9), .inl (k 0, 8, .inl (fun _ => 0)))] : va_W)) [0, 1] (by decide) rfl).weaken (fun _ _ _ _ => trivial)) (m_refuse2 l D k hm am .null .null 0 _) gV_RX7_95 (by decide +kernel) rfl rfl ⟨Nat.le_of_ble_eq_true rfl, Nat.le_of_ble_eq_true rfl⟩ rfl rfl rfl rfl (Nat.le_of_ble_eq_true rfl) dX7_reach_31 ⟨Nat.le_of_ble_eq_true rfl, Nat.le_of_ble_eq_true rfl⟩) (fun r_6 u_4 H locs h_5 hP hD hS => ?_)
  have h_5 : r_6 = -2 := h_5
  have hP : va_P D gx_cl [] H := hP
  have hD : va_D A [] := hD
  have eh_5 := h_5
  subst eh_5
  exact gx_retI C (u := ()) gx_nil gx_noneD hS (rfl) dX7_reach_34
set_option maxHeartbeats 4000000 in
set_option maxRecDepth 100000 in
theorem m_safe_pub (l : Launch) (D : va_G) (k : Nat → ClassId) (hm : Nat) (am : Nat → Nat) (av : Int32) (sz : Nat) : Met l yX7_safe (.code yX7_safe cX7_safe 2 (some .int) :: gx_T) ({ frames := 2, cells := 0, slots := 0, locals := 46 }) (gx_Pre D k [.ref hm, .int av] ([(hm, .inr (5, [.ref (am 1), .ref (am 2), .ref (am 3), .ref (am 4), .ref (am 5), .ref (am 6), .ref (am 7), .ref (am 8), .int 0, .ref (am 9), .int 0, .ref (am 10), .int 0, .ref (am 11), .ref (am 12), .int 0, .int 0, .int 1, .null, .null, .int 0, .int 0, .int 0, .long 0, .int 0, .ref (am 13), .int 0, .int 0, .int 0, .ref (am 14), .ref (am 15), .ref (am 16), .ref (am 17), .int 0, .ref (am 18), .ref (am 19), .ref (am 20)])), ((am 9), .inl (k 0, 8, .inl (fun _ => 0)))]) sz) (gx_Qi D (fun (r : Int32) (u : Unit) => r = -2) (fun (u : Unit) => ([] : va_W)) (va_A ([(hm, .inr (5, [.ref (am 1), .ref (am 2), .ref (am 3), .ref (am 4), .ref (am 5), .ref (am 6), .ref (am 7), .ref (am 8), .int 0, .ref (am 9), .int 0, .ref (am 10), .int 0, .ref (am 11), .ref (am 12), .int 0, .int 0, .int 1, .null, .null, .int 0, .int 0, .int 0, .long 0, .int 0, .ref (am 13), .int 0, .int 0, .int 0, .ref (am 14), .ref (am 15), .ref (am 16), .ref (am 17), .int 0, .ref (am 18), .ref (am 19), .ref (am 20)])), ((am 9), .inl (k 0, 8, .inl (fun _ => 0)))]) sz)) 0 0 (va_A ([(hm, .inr (5, [.ref (am 1), .ref (am 2), .ref (am 3), .ref (am 4), .ref (am 5), .ref (am 6), .ref (am 7), .ref (am 8), .int 0, .ref (am 9), .int 0, .ref (am 10), .int 0, .ref (am 11), .ref (am 12), .int 0, .int 0, .int 1, .null, .null, .int 0, .int 0, .int 0, .long 0, .int 0, .ref (am 13), .int 0, .int 0, .int 0, .ref (am 14), .ref (am 15), .ref (am 16), .ref (am 17), .int 0, .ref (am 18), .ref (am 19), .ref (am 20)])), ((am 9), .inl (k 0, 8, .inl (fun _ => 0)))]) sz) := by
  refine gx_metE (Qc := fun A => gx_Qi D (fun (r : Int32) (u : Unit) => r = -2) (fun (u : Unit) => ([] : va_W)) A) (y := yX7_safe) (cc := cX7_safe) (n := 2) (ret := (some .int)) (av := [.ref hm, .int av]) (by decide) (Nat.le_of_ble_eq_true rfl) ?_
  intro p e s m below meth c A ls C hA hP hD hK hS hl
  obtain ⟨hx, hb, hr, hml, hown, hT, hlk, hin⟩ := id C
  have hown : s.vm.findClass RX7 = some m.cls := hown
  have hl : lv_has ls 2 [(0, .ref hm), (1, .int av)] := hl
  refine lv_aload_n hx hb dX7_safe_0 rfl (lv_at hl 0 rfl) ?_
  refine lv_iload_n hx hb dX7_safe_1 rfl (lv_at hl 1 rfl) ?_
  refine gx_pi hP hS (gx_runV (na := 1) (As := [.int av]) (rest := []) (ci := 5) C hl.1 hK (gx_subP (wc := ([(hm, .inr (5, [.ref (am 1), .ref (am 2), .ref (am 3), .ref (am 4), .ref (am 5), .ref (am 6), .ref (am 7), .ref (am 8), .int 0, .ref (am 9), .int 0, .ref (am 10), .int 0, .ref (am 11), .ref (am 12), .int 0, .int 0, .int 1, .null, .null, .int 0, .int 0, .int 0, .long 0, .int 0, .ref (am 13), .int 0, .int 0, .int 0, .ref (am 14), .ref (am 15), .ref (am 16), .ref (am 17), .int 0, .ref (am 18), .ref (am 19), .ref (am 20)]))] : va_W)) hP [0] rfl) ((hD.sub (ws' := ([(hm, .inr (5, [.ref (am 1), .ref (am 2), .ref (am 3), .ref (am 4), .ref (am 5), .ref (am 6), .ref (am 7), .ref (am 8), .int 0, .ref (am 9), .int 0, .ref (am 10), .int 0, .ref (am 11), .ref (am 12), .int 0, .int 0, .int 1, .null, .null, .int 0, .int 0, .int 0, .long 0, .int 0, .ref (am 13), .int 0, .int 0, .int 0, .ref (am 14), .ref (am 15), .ref (am 16), .ref (am 17), .int 0, .ref (am 18), .ref (am 19), .ref (am 20)]))] : va_W)) [0] (by decide) rfl).weaken (fun _ _ _ _ => trivial)) (m_isOne l D k hm am av _) gV_RX7_235 (by decide +kernel) rfl rfl ⟨Nat.le_of_ble_eq_true rfl, Nat.le_of_ble_eq_true rfl⟩ rfl rfl rfl rfl (Nat.le_of_ble_eq_true rfl) dX7_safe_2 ⟨Nat.le_of_ble_eq_true rfl, Nat.le_of_ble_eq_true rfl⟩) (fun r_2 H locs c_1 hP hS => ?_)
  have c_1 : r_2 = 0 := c_1
  subst c_1
  refine lv_if_ne (tgt := 15) hx hb dX7_safe_5 (by decide) (fun c_3 => absurd (by decide) c_3) (fun c_3 => ?_)
  refine lv_aload_n hx hb dX7_safe_8 rfl (lv_at hl 0 rfl) ?_
  refine lv_bipush (v := (-2)) hx hb dX7_safe_9 (by decide) ?_
  refine gx_ei (wc := ([(hm, .inr (5, [.ref (am 1), .ref (am 2), .ref (am 3), .ref (am 4), .ref (am 5), .ref (am 6), .ref (am 7), .ref (am 8), .int 0, .ref (am 9), .int 0, .ref (am 10), .int 0, .ref (am 11), .ref (am 12), .int 0, .int 0, .int 1, .null, .null, .int 0, .int 0, .int 0, .long 0, .int 0, .ref (am 13), .int 0, .int 0, .int 0, .ref (am 14), .ref (am 15), .ref (am 16), .ref (am 17), .int 0, .ref (am 18), .ref (am 19), .ref (am 20)])), ((am 9), .inl (k 0, 8, .inl (fun _ => 0)))] : va_W)) (wr := []) (isC := [0, 1]) (isR := []) hP hD hS hA rfl rfl (by decide) (by decide) (gx_runV (na := 1) (As := [.int (-2)]) (rest := []) (ci := 5) C hl.1 hK (gx_subP (wc := ([(hm, .inr (5, [.ref (am 1), .ref (am 2), .ref (am 3), .ref (am 4), .ref (am 5), .ref (am 6), .ref (am 7), .ref (am 8), .int 0, .ref (am 9), .int 0, .ref (am 10), .int 0, .ref (am 11), .ref (am 12), .int 0, .int 0, .int 1, .null, .null, .int 0, .int 0, .int 0, .long 0, .int 0, .ref (am 13), .int 0, .int 0, .int 0, .ref (am 14), .ref (am 15), .ref (am 16), .ref (am 17), .int 0, .ref (am 18), .ref (am 19), .ref (am 20)])), ((am 9), .inl (k 0, 8, .inl (fun _ => 0)))] : va_W)) hP [0, 1] rfl) ((hD.sub (ws' := ([(hm, .inr (5, [.ref (am 1), .ref (am 2), .ref (am 3), .ref (am 4), .ref (am 5), .ref (am 6), .ref (am 7), .ref (am 8), .int 0, .ref (am 9), .int 0, .ref (am 10), .int 0, .ref (am 11), .ref (am 12), .int 0, .int 0, .int 1, .null, .null, .int 0, .int 0, .int 0, .long 0, .int 0, .ref (am 13), .int 0, .int 0, .int 0, .ref (am 14), .ref (am 15), .ref (am 16), .ref (am 17), .int 0, .ref (am 18), .ref (am 19), .ref (am 20)])), ((am 9), .inl (k 0, 8, .inl (fun _ => 0)))] : va_W)) [0, 1] (by decide) rfl).weaken (fun _ _ _ _ => trivial)) (m_refuse2 l D k hm am .null .null 0 _) gV_RX7_95 (by decide +kernel) rfl rfl ⟨Nat.le_of_ble_eq_true rfl, Nat.le_of_ble_eq_true rfl⟩ rfl rfl rfl rfl (Nat.le_of_ble_eq_true rfl) dX7_safe_11 ⟨Nat.le_of_ble_eq_true rfl, Nat.le_of_ble_eq_true rfl⟩) (fun r_6 u_4 H locs h_5 hP hD hS => ?_)
  have h_5 : r_6 = -2 := h_5
  have hP : va_P D gx_cl [] H := hP
  have hD : va_D A [] := hD
  have eh_5 := h_5
  subst eh_5
  exact gx_retI C (u := ()) gx_nil gx_noneD hS (rfl) dX7_safe_14
set_option maxHeartbeats 4000000 in
set_option maxRecDepth 100000 in
theorem m_go_pub (l : Launch) (D : va_G) (k : Nat → ClassId) (hm : Nat) (am : Nat → Nat) (av : Int32) (bv : Int32) (sz : Nat) : Met l yX7_go (.code yX7_go cX7_go 3 (some .int) :: gx_T) ({ frames := 2, cells := 0, slots := 0, locals := 46 }) (gx_Pre D k [.ref hm, .int av, .int bv] ([(hm, .inr (5, [.ref (am 1), .ref (am 2), .ref (am 3), .ref (am 4), .ref (am 5), .ref (am 6), .ref (am 7), .ref (am 8), .int 0, .ref (am 9), .int 0, .ref (am 10), .int 0, .ref (am 11), .ref (am 12), .int 0, .int 0, .int 1, .null, .null, .int 0, .int 0, .int 0, .long 0, .int 0, .ref (am 13), .int 0, .int 0, .int 0, .ref (am 14), .ref (am 15), .ref (am 16), .ref (am 17), .int 0, .ref (am 18), .ref (am 19), .ref (am 20)])), ((am 9), .inl (k 0, 8, .inl (fun _ => 0)))]) sz) (gx_Qi D (fun (r : Int32) (u : Unit) => r = -2) (fun (u : Unit) => ([] : va_W)) (va_A ([(hm, .inr (5, [.ref (am 1), .ref (am 2), .ref (am 3), .ref (am 4), .ref (am 5), .ref (am 6), .ref (am 7), .ref (am 8), .int 0, .ref (am 9), .int 0, .ref (am 10), .int 0, .ref (am 11), .ref (am 12), .int 0, .int 0, .int 1, .null, .null, .int 0, .int 0, .int 0, .long 0, .int 0, .ref (am 13), .int 0, .int 0, .int 0, .ref (am 14), .ref (am 15), .ref (am 16), .ref (am 17), .int 0, .ref (am 18), .ref (am 19), .ref (am 20)])), ((am 9), .inl (k 0, 8, .inl (fun _ => 0)))]) sz)) 0 0 (va_A ([(hm, .inr (5, [.ref (am 1), .ref (am 2), .ref (am 3), .ref (am 4), .ref (am 5), .ref (am 6), .ref (am 7), .ref (am 8), .int 0, .ref (am 9), .int 0, .ref (am 10), .int 0, .ref (am 11), .ref (am 12), .int 0, .int 0, .int 1, .null, .null, .int 0, .int 0, .int 0, .long 0, .int 0, .ref (am 13), .int 0, .int 0, .int 0, .ref (am 14), .ref (am 15), .ref (am 16), .ref (am 17), .int 0, .ref (am 18), .ref (am 19), .ref (am 20)])), ((am 9), .inl (k 0, 8, .inl (fun _ => 0)))]) sz) := by
  refine gx_metE (Qc := fun A => gx_Qi D (fun (r : Int32) (u : Unit) => r = -2) (fun (u : Unit) => ([] : va_W)) A) (y := yX7_go) (cc := cX7_go) (n := 3) (ret := (some .int)) (av := [.ref hm, .int av, .int bv]) (by decide) (Nat.le_of_ble_eq_true rfl) ?_
  intro p e s m below meth c A ls C hA hP hD hK hS hl
  obtain ⟨hx, hb, hr, hml, hown, hT, hlk, hin⟩ := id C
  have hown : s.vm.findClass RX7 = some m.cls := hown
  have hl : lv_has ls 3 [(0, .ref hm), (1, .int av), (2, .int bv)] := hl
  refine lv_aload_n hx hb dX7_go_0 rfl (lv_at hl 0 rfl) ?_
  refine lv_iload_n hx hb dX7_go_1 rfl (lv_at hl 1 rfl) ?_
  refine gx_pi hP hS (gx_runV (na := 1) (As := [.int av]) (rest := []) (ci := 5) C hl.1 hK (gx_subP (wc := ([(hm, .inr (5, [.ref (am 1), .ref (am 2), .ref (am 3), .ref (am 4), .ref (am 5), .ref (am 6), .ref (am 7), .ref (am 8), .int 0, .ref (am 9), .int 0, .ref (am 10), .int 0, .ref (am 11), .ref (am 12), .int 0, .int 0, .int 1, .null, .null, .int 0, .int 0, .int 0, .long 0, .int 0, .ref (am 13), .int 0, .int 0, .int 0, .ref (am 14), .ref (am 15), .ref (am 16), .ref (am 17), .int 0, .ref (am 18), .ref (am 19), .ref (am 20)]))] : va_W)) hP [0] rfl) ((hD.sub (ws' := ([(hm, .inr (5, [.ref (am 1), .ref (am 2), .ref (am 3), .ref (am 4), .ref (am 5), .ref (am 6), .ref (am 7), .ref (am 8), .int 0, .ref (am 9), .int 0, .ref (am 10), .int 0, .ref (am 11), .ref (am 12), .int 0, .int 0, .int 1, .null, .null, .int 0, .int 0, .int 0, .long 0, .int 0, .ref (am 13), .int 0, .int 0, .int 0, .ref (am 14), .ref (am 15), .ref (am 16), .ref (am 17), .int 0, .ref (am 18), .ref (am 19), .ref (am 20)]))] : va_W)) [0] (by decide) rfl).weaken (fun _ _ _ _ => trivial)) (m_isOne l D k hm am av _) gV_RX7_235 (by decide +kernel) rfl rfl ⟨Nat.le_of_ble_eq_true rfl, Nat.le_of_ble_eq_true rfl⟩ rfl rfl rfl rfl (Nat.le_of_ble_eq_true rfl) dX7_go_2 ⟨Nat.le_of_ble_eq_true rfl, Nat.le_of_ble_eq_true rfl⟩) (fun r_2 H locs c_1 hP hS => ?_)
  have c_1 : r_2 = 0 := c_1
  subst c_1
  refine lv_if_eq (tgt := 17) hx hb dX7_go_5 (by decide) (fun c_3 => ?_) (fun c_3 => absurd (by decide) c_3)
  refine lv_aload_n hx hb dX7_go_17 rfl (lv_at hl 0 rfl) ?_
  refine lv_bipush (v := (-2)) hx hb dX7_go_18 (by decide) ?_
  refine gx_ei (wc := ([(hm, .inr (5, [.ref (am 1), .ref (am 2), .ref (am 3), .ref (am 4), .ref (am 5), .ref (am 6), .ref (am 7), .ref (am 8), .int 0, .ref (am 9), .int 0, .ref (am 10), .int 0, .ref (am 11), .ref (am 12), .int 0, .int 0, .int 1, .null, .null, .int 0, .int 0, .int 0, .long 0, .int 0, .ref (am 13), .int 0, .int 0, .int 0, .ref (am 14), .ref (am 15), .ref (am 16), .ref (am 17), .int 0, .ref (am 18), .ref (am 19), .ref (am 20)])), ((am 9), .inl (k 0, 8, .inl (fun _ => 0)))] : va_W)) (wr := []) (isC := [0, 1]) (isR := []) hP hD hS hA rfl rfl (by decide) (by decide) (gx_runV (na := 1) (As := [.int (-2)]) (rest := []) (ci := 5) C hl.1 hK (gx_subP (wc := ([(hm, .inr (5, [.ref (am 1), .ref (am 2), .ref (am 3), .ref (am 4), .ref (am 5), .ref (am 6), .ref (am 7), .ref (am 8), .int 0, .ref (am 9), .int 0, .ref (am 10), .int 0, .ref (am 11), .ref (am 12), .int 0, .int 0, .int 1, .null, .null, .int 0, .int 0, .int 0, .long 0, .int 0, .ref (am 13), .int 0, .int 0, .int 0, .ref (am 14), .ref (am 15), .ref (am 16), .ref (am 17), .int 0, .ref (am 18), .ref (am 19), .ref (am 20)])), ((am 9), .inl (k 0, 8, .inl (fun _ => 0)))] : va_W)) hP [0, 1] rfl) ((hD.sub (ws' := ([(hm, .inr (5, [.ref (am 1), .ref (am 2), .ref (am 3), .ref (am 4), .ref (am 5), .ref (am 6), .ref (am 7), .ref (am 8), .int 0, .ref (am 9), .int 0, .ref (am 10), .int 0, .ref (am 11), .ref (am 12), .int 0, .int 0, .int 1, .null, .null, .int 0, .int 0, .int 0, .long 0, .int 0, .ref (am 13), .int 0, .int 0, .int 0, .ref (am 14), .ref (am 15), .ref (am 16), .ref (am 17), .int 0, .ref (am 18), .ref (am 19), .ref (am 20)])), ((am 9), .inl (k 0, 8, .inl (fun _ => 0)))] : va_W)) [0, 1] (by decide) rfl).weaken (fun _ _ _ _ => trivial)) (m_refuse2 l D k hm am .null .null 0 _) gV_RX7_95 (by decide +kernel) rfl rfl ⟨Nat.le_of_ble_eq_true rfl, Nat.le_of_ble_eq_true rfl⟩ rfl rfl rfl rfl (Nat.le_of_ble_eq_true rfl) dX7_go_20 ⟨Nat.le_of_ble_eq_true rfl, Nat.le_of_ble_eq_true rfl⟩) (fun r_6 u_4 H locs h_5 hP hD hS => ?_)
  have h_5 : r_6 = -2 := h_5
  have hP : va_P D gx_cl [] H := hP
  have hD : va_D A [] := hD
  have eh_5 := h_5
  subst eh_5
  exact gx_retI C (u := ()) gx_nil gx_noneD hS (rfl) dX7_go_23
set_option maxHeartbeats 4000000 in
set_option maxRecDepth 100000 in
theorem m_next_pub (l : Launch) (D : va_G) (k : Nat → ClassId) (hm : Nat) (am : Nat → Nat) (av : Int32) (bv : Int32) (sz : Nat) : Met l yX7_next (.code yX7_next cX7_next 4 (some .int) :: gx_T) ({ frames := 2, cells := 0, slots := 0, locals := 46 }) (gx_Pre D k [.ref hm, .int av, .int bv] ([(hm, .inr (5, [.ref (am 1), .ref (am 2), .ref (am 3), .ref (am 4), .ref (am 5), .ref (am 6), .ref (am 7), .ref (am 8), .int 0, .ref (am 9), .int 0, .ref (am 10), .int 0, .ref (am 11), .ref (am 12), .int 0, .int 0, .int 1, .null, .null, .int 0, .int 0, .int 0, .long 0, .int 0, .ref (am 13), .int 0, .int 0, .int 0, .ref (am 14), .ref (am 15), .ref (am 16), .ref (am 17), .int 0, .ref (am 18), .ref (am 19), .ref (am 20)])), ((am 9), .inl (k 0, 8, .inl (fun _ => 0)))]) sz) (gx_Qi D (fun (r : Int32) (u : Unit) => r = -2) (fun (u : Unit) => ([] : va_W)) (va_A ([(hm, .inr (5, [.ref (am 1), .ref (am 2), .ref (am 3), .ref (am 4), .ref (am 5), .ref (am 6), .ref (am 7), .ref (am 8), .int 0, .ref (am 9), .int 0, .ref (am 10), .int 0, .ref (am 11), .ref (am 12), .int 0, .int 0, .int 1, .null, .null, .int 0, .int 0, .int 0, .long 0, .int 0, .ref (am 13), .int 0, .int 0, .int 0, .ref (am 14), .ref (am 15), .ref (am 16), .ref (am 17), .int 0, .ref (am 18), .ref (am 19), .ref (am 20)])), ((am 9), .inl (k 0, 8, .inl (fun _ => 0)))]) sz)) 0 0 (va_A ([(hm, .inr (5, [.ref (am 1), .ref (am 2), .ref (am 3), .ref (am 4), .ref (am 5), .ref (am 6), .ref (am 7), .ref (am 8), .int 0, .ref (am 9), .int 0, .ref (am 10), .int 0, .ref (am 11), .ref (am 12), .int 0, .int 0, .int 1, .null, .null, .int 0, .int 0, .int 0, .long 0, .int 0, .ref (am 13), .int 0, .int 0, .int 0, .ref (am 14), .ref (am 15), .ref (am 16), .ref (am 17), .int 0, .ref (am 18), .ref (am 19), .ref (am 20)])), ((am 9), .inl (k 0, 8, .inl (fun _ => 0)))]) sz) := by
  refine gx_metE (Qc := fun A => gx_Qi D (fun (r : Int32) (u : Unit) => r = -2) (fun (u : Unit) => ([] : va_W)) A) (y := yX7_next) (cc := cX7_next) (n := 4) (ret := (some .int)) (av := [.ref hm, .int av, .int bv]) (by decide) (Nat.le_of_ble_eq_true rfl) ?_
  intro p e s m below meth c A ls C hA hP hD hK hS hl
  obtain ⟨hx, hb, hr, hml, hown, hT, hlk, hin⟩ := id C
  have hown : s.vm.findClass RX7 = some m.cls := hown
  have hl : lv_has ls 4 [(0, .ref hm), (1, .int av), (2, .int bv)] := hl
  refine lv_iload_n hx hb dX7_next_0 rfl (lv_at hl 1 rfl) ?_
  refine lv_i2l (v := (av).toInt64) hx hb dX7_next_1 (rfl) ?_
  refine lv_lconst (v := 0) hx hb dX7_next_2 (by decide) ?_
  refine lv_ldc2 (v := 7) hx hb hown (hT _ wd_1046) dX7_next_3 ?_
  refine gx_pi hP hS (gx_runS (na := 3) (As := [.long ((av).toInt64), .long 0, .long 7]) (rest := []) C hl.1 hK (gx_subP (wc := ([] : va_W)) hP [] rfl) ((hD.sub (ws' := ([] : va_W)) [] (by decide) rfl).weaken (fun _ _ _ _ => trivial)) (m_in l D k av 0 7 0 7 (by decide) (by decide) _) gS_RX7_82 (by decide +kernel) rfl rfl ⟨Nat.le_of_ble_eq_true rfl, Nat.le_of_ble_eq_true rfl⟩ rfl rfl (Nat.le_of_ble_eq_true rfl) dX7_next_6 ⟨Nat.le_of_ble_eq_true rfl, Nat.le_of_ble_eq_true rfl⟩) (fun r_2 H locs pc_1 hP hS => ?_)
  have oc_1 : r_2 = 1 ∧ gx_b av 0 7 = true ∨ r_2 = 0 ∧ gx_b av 0 7 = false := pc_1
  clear pc_1
  rcases oc_1 with ⟨rfl, c_1⟩ | ⟨rfl, c_1⟩
  · refine lv_if_eq (tgt := 20) hx hb dX7_next_9 (by decide) (fun c_3 => absurd c_3 (by decide)) (fun c_3 => ?_)
    refine lv_aload_n hx hb dX7_next_12 rfl (lv_at hl 0 rfl) ?_
    refine lv_iload_n hx hb dX7_next_13 rfl (lv_at hl 2 rfl) ?_
    refine gx_pi hP hS (gx_runV (na := 1) (As := [.int bv]) (rest := []) (ci := 5) C hl.1 hK (gx_subP (wc := ([(hm, .inr (5, [.ref (am 1), .ref (am 2), .ref (am 3), .ref (am 4), .ref (am 5), .ref (am 6), .ref (am 7), .ref (am 8), .int 0, .ref (am 9), .int 0, .ref (am 10), .int 0, .ref (am 11), .ref (am 12), .int 0, .int 0, .int 1, .null, .null, .int 0, .int 0, .int 0, .long 0, .int 0, .ref (am 13), .int 0, .int 0, .int 0, .ref (am 14), .ref (am 15), .ref (am 16), .ref (am 17), .int 0, .ref (am 18), .ref (am 19), .ref (am 20)]))] : va_W)) hP [0] rfl) ((hD.sub (ws' := ([(hm, .inr (5, [.ref (am 1), .ref (am 2), .ref (am 3), .ref (am 4), .ref (am 5), .ref (am 6), .ref (am 7), .ref (am 8), .int 0, .ref (am 9), .int 0, .ref (am 10), .int 0, .ref (am 11), .ref (am 12), .int 0, .int 0, .int 1, .null, .null, .int 0, .int 0, .int 0, .long 0, .int 0, .ref (am 13), .int 0, .int 0, .int 0, .ref (am 14), .ref (am 15), .ref (am 16), .ref (am 17), .int 0, .ref (am 18), .ref (am 19), .ref (am 20)]))] : va_W)) [0] (by decide) rfl).weaken (fun _ _ _ _ => trivial)) (m_isOne l D k hm am bv _) gV_RX7_235 (by decide +kernel) rfl rfl ⟨Nat.le_of_ble_eq_true rfl, Nat.le_of_ble_eq_true rfl⟩ rfl rfl rfl rfl (Nat.le_of_ble_eq_true rfl) dX7_next_14 ⟨Nat.le_of_ble_eq_true rfl, Nat.le_of_ble_eq_true rfl⟩) (fun r_5 H locs c_4 hP hS => ?_)
    have c_4 : r_5 = 0 := c_4
    subst c_4
    refine lv_if_ne (tgt := 27) hx hb dX7_next_17 (by decide) (fun c_6 => absurd (by decide) c_6) (fun c_6 => ?_)
    refine lv_aload_n hx hb dX7_next_20 rfl (lv_at hl 0 rfl) ?_
    refine lv_bipush (v := (-2)) hx hb dX7_next_21 (by decide) ?_
    refine gx_ei (wc := ([(hm, .inr (5, [.ref (am 1), .ref (am 2), .ref (am 3), .ref (am 4), .ref (am 5), .ref (am 6), .ref (am 7), .ref (am 8), .int 0, .ref (am 9), .int 0, .ref (am 10), .int 0, .ref (am 11), .ref (am 12), .int 0, .int 0, .int 1, .null, .null, .int 0, .int 0, .int 0, .long 0, .int 0, .ref (am 13), .int 0, .int 0, .int 0, .ref (am 14), .ref (am 15), .ref (am 16), .ref (am 17), .int 0, .ref (am 18), .ref (am 19), .ref (am 20)])), ((am 9), .inl (k 0, 8, .inl (fun _ => 0)))] : va_W)) (wr := []) (isC := [0, 1]) (isR := []) hP hD hS hA rfl rfl (by decide) (by decide) (gx_runV (na := 1) (As := [.int (-2)]) (rest := []) (ci := 5) C hl.1 hK (gx_subP (wc := ([(hm, .inr (5, [.ref (am 1), .ref (am 2), .ref (am 3), .ref (am 4), .ref (am 5), .ref (am 6), .ref (am 7), .ref (am 8), .int 0, .ref (am 9), .int 0, .ref (am 10), .int 0, .ref (am 11), .ref (am 12), .int 0, .int 0, .int 1, .null, .null, .int 0, .int 0, .int 0, .long 0, .int 0, .ref (am 13), .int 0, .int 0, .int 0, .ref (am 14), .ref (am 15), .ref (am 16), .ref (am 17), .int 0, .ref (am 18), .ref (am 19), .ref (am 20)])), ((am 9), .inl (k 0, 8, .inl (fun _ => 0)))] : va_W)) hP [0, 1] rfl) ((hD.sub (ws' := ([(hm, .inr (5, [.ref (am 1), .ref (am 2), .ref (am 3), .ref (am 4), .ref (am 5), .ref (am 6), .ref (am 7), .ref (am 8), .int 0, .ref (am 9), .int 0, .ref (am 10), .int 0, .ref (am 11), .ref (am 12), .int 0, .int 0, .int 1, .null, .null, .int 0, .int 0, .int 0, .long 0, .int 0, .ref (am 13), .int 0, .int 0, .int 0, .ref (am 14), .ref (am 15), .ref (am 16), .ref (am 17), .int 0, .ref (am 18), .ref (am 19), .ref (am 20)])), ((am 9), .inl (k 0, 8, .inl (fun _ => 0)))] : va_W)) [0, 1] (by decide) rfl).weaken (fun _ _ _ _ => trivial)) (m_refuse2 l D k hm am .null .null 0 _) gV_RX7_95 (by decide +kernel) rfl rfl ⟨Nat.le_of_ble_eq_true rfl, Nat.le_of_ble_eq_true rfl⟩ rfl rfl rfl rfl (Nat.le_of_ble_eq_true rfl) dX7_next_23 ⟨Nat.le_of_ble_eq_true rfl, Nat.le_of_ble_eq_true rfl⟩) (fun r_9 u_7 H locs h_8 hP hD hS => ?_)
    have h_8 : r_9 = -2 := h_8
    have hP : va_P D gx_cl [] H := hP
    have hD : va_D A [] := hD
    have eh_8 := h_8
    subst eh_8
    exact gx_retI C (u := ()) gx_nil gx_noneD hS (rfl) dX7_next_26
  · refine lv_if_eq (tgt := 20) hx hb dX7_next_9 (by decide) (fun c_11 => ?_) (fun c_11 => absurd (by decide) c_11)
    refine lv_aload_n hx hb dX7_next_20 rfl (lv_at hl 0 rfl) ?_
    refine lv_bipush (v := (-2)) hx hb dX7_next_21 (by decide) ?_
    refine gx_ei (wc := ([(hm, .inr (5, [.ref (am 1), .ref (am 2), .ref (am 3), .ref (am 4), .ref (am 5), .ref (am 6), .ref (am 7), .ref (am 8), .int 0, .ref (am 9), .int 0, .ref (am 10), .int 0, .ref (am 11), .ref (am 12), .int 0, .int 0, .int 1, .null, .null, .int 0, .int 0, .int 0, .long 0, .int 0, .ref (am 13), .int 0, .int 0, .int 0, .ref (am 14), .ref (am 15), .ref (am 16), .ref (am 17), .int 0, .ref (am 18), .ref (am 19), .ref (am 20)])), ((am 9), .inl (k 0, 8, .inl (fun _ => 0)))] : va_W)) (wr := []) (isC := [0, 1]) (isR := []) hP hD hS hA rfl rfl (by decide) (by decide) (gx_runV (na := 1) (As := [.int (-2)]) (rest := []) (ci := 5) C hl.1 hK (gx_subP (wc := ([(hm, .inr (5, [.ref (am 1), .ref (am 2), .ref (am 3), .ref (am 4), .ref (am 5), .ref (am 6), .ref (am 7), .ref (am 8), .int 0, .ref (am 9), .int 0, .ref (am 10), .int 0, .ref (am 11), .ref (am 12), .int 0, .int 0, .int 1, .null, .null, .int 0, .int 0, .int 0, .long 0, .int 0, .ref (am 13), .int 0, .int 0, .int 0, .ref (am 14), .ref (am 15), .ref (am 16), .ref (am 17), .int 0, .ref (am 18), .ref (am 19), .ref (am 20)])), ((am 9), .inl (k 0, 8, .inl (fun _ => 0)))] : va_W)) hP [0, 1] rfl) ((hD.sub (ws' := ([(hm, .inr (5, [.ref (am 1), .ref (am 2), .ref (am 3), .ref (am 4), .ref (am 5), .ref (am 6), .ref (am 7), .ref (am 8), .int 0, .ref (am 9), .int 0, .ref (am 10), .int 0, .ref (am 11), .ref (am 12), .int 0, .int 0, .int 1, .null, .null, .int 0, .int 0, .int 0, .long 0, .int 0, .ref (am 13), .int 0, .int 0, .int 0, .ref (am 14), .ref (am 15), .ref (am 16), .ref (am 17), .int 0, .ref (am 18), .ref (am 19), .ref (am 20)])), ((am 9), .inl (k 0, 8, .inl (fun _ => 0)))] : va_W)) [0, 1] (by decide) rfl).weaken (fun _ _ _ _ => trivial)) (m_refuse2 l D k hm am .null .null 0 _) gV_RX7_95 (by decide +kernel) rfl rfl ⟨Nat.le_of_ble_eq_true rfl, Nat.le_of_ble_eq_true rfl⟩ rfl rfl rfl rfl (Nat.le_of_ble_eq_true rfl) dX7_next_23 ⟨Nat.le_of_ble_eq_true rfl, Nat.le_of_ble_eq_true rfl⟩) (fun r_14 u_12 H locs h_13 hP hD hS => ?_)
    have h_13 : r_14 = -2 := h_13
    have hP : va_P D gx_cl [] H := hP
    have hD : va_D A [] := hD
    have eh_13 := h_13
    subst eh_13
    exact gx_retI C (u := ()) gx_nil gx_noneD hS (rfl) dX7_next_26
set_option maxHeartbeats 4000000 in
set_option maxRecDepth 100000 in
theorem m_run_pub (l : Launch) (D : va_G) (k : Nat → ClassId) (hm : Nat) (am : Nat → Nat) (av : Int32) (bv : Int32) (cv : Int32) (dv : Int32) (sz : Nat) : Met l yX7_run (.code yX7_run cX7_run 7 (some .int) :: gx_T) ({ frames := 2, cells := 0, slots := 0, locals := 46 }) (gx_Pre D k [.ref hm, .int av, .int bv, .int cv, .int dv] ([(hm, .inr (5, [.ref (am 1), .ref (am 2), .ref (am 3), .ref (am 4), .ref (am 5), .ref (am 6), .ref (am 7), .ref (am 8), .int 0, .ref (am 9), .int 0, .ref (am 10), .int 0, .ref (am 11), .ref (am 12), .int 0, .int 0, .int 1, .null, .null, .int 0, .int 0, .int 0, .long 0, .int 0, .ref (am 13), .int 0, .int 0, .int 0, .ref (am 14), .ref (am 15), .ref (am 16), .ref (am 17), .int 0, .ref (am 18), .ref (am 19), .ref (am 20)])), ((am 9), .inl (k 0, 8, .inl (fun _ => 0)))]) sz) (gx_Qi D (fun (r : Int32) (u : Unit) => r = -2) (fun (u : Unit) => ([] : va_W)) (va_A ([(hm, .inr (5, [.ref (am 1), .ref (am 2), .ref (am 3), .ref (am 4), .ref (am 5), .ref (am 6), .ref (am 7), .ref (am 8), .int 0, .ref (am 9), .int 0, .ref (am 10), .int 0, .ref (am 11), .ref (am 12), .int 0, .int 0, .int 1, .null, .null, .int 0, .int 0, .int 0, .long 0, .int 0, .ref (am 13), .int 0, .int 0, .int 0, .ref (am 14), .ref (am 15), .ref (am 16), .ref (am 17), .int 0, .ref (am 18), .ref (am 19), .ref (am 20)])), ((am 9), .inl (k 0, 8, .inl (fun _ => 0)))]) sz)) 0 0 (va_A ([(hm, .inr (5, [.ref (am 1), .ref (am 2), .ref (am 3), .ref (am 4), .ref (am 5), .ref (am 6), .ref (am 7), .ref (am 8), .int 0, .ref (am 9), .int 0, .ref (am 10), .int 0, .ref (am 11), .ref (am 12), .int 0, .int 0, .int 1, .null, .null, .int 0, .int 0, .int 0, .long 0, .int 0, .ref (am 13), .int 0, .int 0, .int 0, .ref (am 14), .ref (am 15), .ref (am 16), .ref (am 17), .int 0, .ref (am 18), .ref (am 19), .ref (am 20)])), ((am 9), .inl (k 0, 8, .inl (fun _ => 0)))]) sz) := by
  refine gx_metE (Qc := fun A => gx_Qi D (fun (r : Int32) (u : Unit) => r = -2) (fun (u : Unit) => ([] : va_W)) A) (y := yX7_run) (cc := cX7_run) (n := 7) (ret := (some .int)) (av := [.ref hm, .int av, .int bv, .int cv, .int dv]) (by decide) (Nat.le_of_ble_eq_true rfl) ?_
  intro p e s m below meth c A ls C hA hP hD hK hS hl
  obtain ⟨hx, hb, hr, hml, hown, hT, hlk, hin⟩ := id C
  have hown : s.vm.findClass RX7 = some m.cls := hown
  have hl : lv_has ls 7 [(0, .ref hm), (1, .int av), (2, .int bv), (3, .int cv), (4, .int dv)] := hl
  refine lv_iload_n hx hb dX7_run_0 rfl (lv_at hl 1 rfl) ?_
  refine lv_i2l (v := (av).toInt64) hx hb dX7_run_1 (rfl) ?_
  refine lv_lconst (v := 0) hx hb dX7_run_2 (by decide) ?_
  refine lv_ldc2 (v := 7) hx hb hown (hT _ wd_1046) dX7_run_3 ?_
  refine gx_pi hP hS (gx_runS (na := 3) (As := [.long ((av).toInt64), .long 0, .long 7]) (rest := []) C hl.1 hK (gx_subP (wc := ([] : va_W)) hP [] rfl) ((hD.sub (ws' := ([] : va_W)) [] (by decide) rfl).weaken (fun _ _ _ _ => trivial)) (m_in l D k av 0 7 0 7 (by decide) (by decide) _) gS_RX7_82 (by decide +kernel) rfl rfl ⟨Nat.le_of_ble_eq_true rfl, Nat.le_of_ble_eq_true rfl⟩ rfl rfl (Nat.le_of_ble_eq_true rfl) dX7_run_6 ⟨Nat.le_of_ble_eq_true rfl, Nat.le_of_ble_eq_true rfl⟩) (fun r_2 H locs pc_1 hP hS => ?_)
  have oc_1 : r_2 = 1 ∧ gx_b av 0 7 = true ∨ r_2 = 0 ∧ gx_b av 0 7 = false := pc_1
  clear pc_1
  rcases oc_1 with ⟨rfl, c_1⟩ | ⟨rfl, c_1⟩
  · refine lv_if_eq (tgt := 45) hx hb dX7_run_9 (by decide) (fun c_3 => absurd c_3 (by decide)) (fun c_3 => ?_)
    refine lv_aload_n hx hb dX7_run_12 rfl (lv_at hl 0 rfl) ?_
    refine lv_iload_n hx hb dX7_run_13 rfl (lv_at hl 2 rfl) ?_
    refine gx_pi hP hS (gx_runV (na := 1) (As := [.int bv]) (rest := []) (ci := 5) C hl.1 hK (gx_subP (wc := ([(hm, .inr (5, [.ref (am 1), .ref (am 2), .ref (am 3), .ref (am 4), .ref (am 5), .ref (am 6), .ref (am 7), .ref (am 8), .int 0, .ref (am 9), .int 0, .ref (am 10), .int 0, .ref (am 11), .ref (am 12), .int 0, .int 0, .int 1, .null, .null, .int 0, .int 0, .int 0, .long 0, .int 0, .ref (am 13), .int 0, .int 0, .int 0, .ref (am 14), .ref (am 15), .ref (am 16), .ref (am 17), .int 0, .ref (am 18), .ref (am 19), .ref (am 20)]))] : va_W)) hP [0] rfl) ((hD.sub (ws' := ([(hm, .inr (5, [.ref (am 1), .ref (am 2), .ref (am 3), .ref (am 4), .ref (am 5), .ref (am 6), .ref (am 7), .ref (am 8), .int 0, .ref (am 9), .int 0, .ref (am 10), .int 0, .ref (am 11), .ref (am 12), .int 0, .int 0, .int 1, .null, .null, .int 0, .int 0, .int 0, .long 0, .int 0, .ref (am 13), .int 0, .int 0, .int 0, .ref (am 14), .ref (am 15), .ref (am 16), .ref (am 17), .int 0, .ref (am 18), .ref (am 19), .ref (am 20)]))] : va_W)) [0] (by decide) rfl).weaken (fun _ _ _ _ => trivial)) (m_isOne l D k hm am bv _) gV_RX7_235 (by decide +kernel) rfl rfl ⟨Nat.le_of_ble_eq_true rfl, Nat.le_of_ble_eq_true rfl⟩ rfl rfl rfl rfl (Nat.le_of_ble_eq_true rfl) dX7_run_14 ⟨Nat.le_of_ble_eq_true rfl, Nat.le_of_ble_eq_true rfl⟩) (fun r_5 H locs c_4 hP hS => ?_)
    have c_4 : r_5 = 0 := c_4
    subst c_4
    refine lv_if_eq (tgt := 45) hx hb dX7_run_17 (by decide) (fun c_6 => ?_) (fun c_6 => absurd (by decide) c_6)
    refine lv_aload_n hx hb dX7_run_45 rfl (lv_at hl 0 rfl) ?_
    refine lv_bipush (v := (-2)) hx hb dX7_run_46 (by decide) ?_
    refine gx_ei (wc := ([(hm, .inr (5, [.ref (am 1), .ref (am 2), .ref (am 3), .ref (am 4), .ref (am 5), .ref (am 6), .ref (am 7), .ref (am 8), .int 0, .ref (am 9), .int 0, .ref (am 10), .int 0, .ref (am 11), .ref (am 12), .int 0, .int 0, .int 1, .null, .null, .int 0, .int 0, .int 0, .long 0, .int 0, .ref (am 13), .int 0, .int 0, .int 0, .ref (am 14), .ref (am 15), .ref (am 16), .ref (am 17), .int 0, .ref (am 18), .ref (am 19), .ref (am 20)])), ((am 9), .inl (k 0, 8, .inl (fun _ => 0)))] : va_W)) (wr := []) (isC := [0, 1]) (isR := []) hP hD hS hA rfl rfl (by decide) (by decide) (gx_runV (na := 1) (As := [.int (-2)]) (rest := []) (ci := 5) C hl.1 hK (gx_subP (wc := ([(hm, .inr (5, [.ref (am 1), .ref (am 2), .ref (am 3), .ref (am 4), .ref (am 5), .ref (am 6), .ref (am 7), .ref (am 8), .int 0, .ref (am 9), .int 0, .ref (am 10), .int 0, .ref (am 11), .ref (am 12), .int 0, .int 0, .int 1, .null, .null, .int 0, .int 0, .int 0, .long 0, .int 0, .ref (am 13), .int 0, .int 0, .int 0, .ref (am 14), .ref (am 15), .ref (am 16), .ref (am 17), .int 0, .ref (am 18), .ref (am 19), .ref (am 20)])), ((am 9), .inl (k 0, 8, .inl (fun _ => 0)))] : va_W)) hP [0, 1] rfl) ((hD.sub (ws' := ([(hm, .inr (5, [.ref (am 1), .ref (am 2), .ref (am 3), .ref (am 4), .ref (am 5), .ref (am 6), .ref (am 7), .ref (am 8), .int 0, .ref (am 9), .int 0, .ref (am 10), .int 0, .ref (am 11), .ref (am 12), .int 0, .int 0, .int 1, .null, .null, .int 0, .int 0, .int 0, .long 0, .int 0, .ref (am 13), .int 0, .int 0, .int 0, .ref (am 14), .ref (am 15), .ref (am 16), .ref (am 17), .int 0, .ref (am 18), .ref (am 19), .ref (am 20)])), ((am 9), .inl (k 0, 8, .inl (fun _ => 0)))] : va_W)) [0, 1] (by decide) rfl).weaken (fun _ _ _ _ => trivial)) (m_refuse2 l D k hm am .null .null 0 _) gV_RX7_95 (by decide +kernel) rfl rfl ⟨Nat.le_of_ble_eq_true rfl, Nat.le_of_ble_eq_true rfl⟩ rfl rfl rfl rfl (Nat.le_of_ble_eq_true rfl) dX7_run_48 ⟨Nat.le_of_ble_eq_true rfl, Nat.le_of_ble_eq_true rfl⟩) (fun r_9 u_7 H locs h_8 hP hD hS => ?_)
    have h_8 : r_9 = -2 := h_8
    have hP : va_P D gx_cl [] H := hP
    have hD : va_D A [] := hD
    have eh_8 := h_8
    subst eh_8
    exact gx_retI C (u := ()) gx_nil gx_noneD hS (rfl) dX7_run_51
  · refine lv_if_eq (tgt := 45) hx hb dX7_run_9 (by decide) (fun c_11 => ?_) (fun c_11 => absurd (by decide) c_11)
    refine lv_aload_n hx hb dX7_run_45 rfl (lv_at hl 0 rfl) ?_
    refine lv_bipush (v := (-2)) hx hb dX7_run_46 (by decide) ?_
    refine gx_ei (wc := ([(hm, .inr (5, [.ref (am 1), .ref (am 2), .ref (am 3), .ref (am 4), .ref (am 5), .ref (am 6), .ref (am 7), .ref (am 8), .int 0, .ref (am 9), .int 0, .ref (am 10), .int 0, .ref (am 11), .ref (am 12), .int 0, .int 0, .int 1, .null, .null, .int 0, .int 0, .int 0, .long 0, .int 0, .ref (am 13), .int 0, .int 0, .int 0, .ref (am 14), .ref (am 15), .ref (am 16), .ref (am 17), .int 0, .ref (am 18), .ref (am 19), .ref (am 20)])), ((am 9), .inl (k 0, 8, .inl (fun _ => 0)))] : va_W)) (wr := []) (isC := [0, 1]) (isR := []) hP hD hS hA rfl rfl (by decide) (by decide) (gx_runV (na := 1) (As := [.int (-2)]) (rest := []) (ci := 5) C hl.1 hK (gx_subP (wc := ([(hm, .inr (5, [.ref (am 1), .ref (am 2), .ref (am 3), .ref (am 4), .ref (am 5), .ref (am 6), .ref (am 7), .ref (am 8), .int 0, .ref (am 9), .int 0, .ref (am 10), .int 0, .ref (am 11), .ref (am 12), .int 0, .int 0, .int 1, .null, .null, .int 0, .int 0, .int 0, .long 0, .int 0, .ref (am 13), .int 0, .int 0, .int 0, .ref (am 14), .ref (am 15), .ref (am 16), .ref (am 17), .int 0, .ref (am 18), .ref (am 19), .ref (am 20)])), ((am 9), .inl (k 0, 8, .inl (fun _ => 0)))] : va_W)) hP [0, 1] rfl) ((hD.sub (ws' := ([(hm, .inr (5, [.ref (am 1), .ref (am 2), .ref (am 3), .ref (am 4), .ref (am 5), .ref (am 6), .ref (am 7), .ref (am 8), .int 0, .ref (am 9), .int 0, .ref (am 10), .int 0, .ref (am 11), .ref (am 12), .int 0, .int 0, .int 1, .null, .null, .int 0, .int 0, .int 0, .long 0, .int 0, .ref (am 13), .int 0, .int 0, .int 0, .ref (am 14), .ref (am 15), .ref (am 16), .ref (am 17), .int 0, .ref (am 18), .ref (am 19), .ref (am 20)])), ((am 9), .inl (k 0, 8, .inl (fun _ => 0)))] : va_W)) [0, 1] (by decide) rfl).weaken (fun _ _ _ _ => trivial)) (m_refuse2 l D k hm am .null .null 0 _) gV_RX7_95 (by decide +kernel) rfl rfl ⟨Nat.le_of_ble_eq_true rfl, Nat.le_of_ble_eq_true rfl⟩ rfl rfl rfl rfl (Nat.le_of_ble_eq_true rfl) dX7_run_48 ⟨Nat.le_of_ble_eq_true rfl, Nat.le_of_ble_eq_true rfl⟩) (fun r_14 u_12 H locs h_13 hP hD hS => ?_)
    have h_13 : r_14 = -2 := h_13
    have hP : va_P D gx_cl [] H := hP
    have hD : va_D A [] := hD
    have eh_13 := h_13
    subst eh_13
    exact gx_retI C (u := ()) gx_nil gx_noneD hS (rfl) dX7_run_51
set_option maxHeartbeats 4000000 in
set_option maxRecDepth 100000 in
theorem m_head_pub (l : Launch) (D : va_G) (k : Nat → ClassId) (hm : Nat) (am : Nat → Nat) (av : Int32) (sz : Nat) : Met l yX7_head (.code yX7_head cX7_head 6 (some .int) :: gx_T) ({ frames := 2, cells := 0, slots := 0, locals := 46 }) (gx_Pre D k [.ref hm, .int av] ([(hm, .inr (5, [.ref (am 1), .ref (am 2), .ref (am 3), .ref (am 4), .ref (am 5), .ref (am 6), .ref (am 7), .ref (am 8), .int 0, .ref (am 9), .int 0, .ref (am 10), .int 0, .ref (am 11), .ref (am 12), .int 0, .int 0, .int 1, .null, .null, .int 0, .int 0, .int 0, .long 0, .int 0, .ref (am 13), .int 0, .int 0, .int 0, .ref (am 14), .ref (am 15), .ref (am 16), .ref (am 17), .int 0, .ref (am 18), .ref (am 19), .ref (am 20)])), ((am 9), .inl (k 0, 8, .inl (fun _ => 0)))]) sz) (gx_Qi D (fun (r : Int32) (u : Unit) => r = -2) (fun (u : Unit) => ([] : va_W)) (va_A ([(hm, .inr (5, [.ref (am 1), .ref (am 2), .ref (am 3), .ref (am 4), .ref (am 5), .ref (am 6), .ref (am 7), .ref (am 8), .int 0, .ref (am 9), .int 0, .ref (am 10), .int 0, .ref (am 11), .ref (am 12), .int 0, .int 0, .int 1, .null, .null, .int 0, .int 0, .int 0, .long 0, .int 0, .ref (am 13), .int 0, .int 0, .int 0, .ref (am 14), .ref (am 15), .ref (am 16), .ref (am 17), .int 0, .ref (am 18), .ref (am 19), .ref (am 20)])), ((am 9), .inl (k 0, 8, .inl (fun _ => 0)))]) sz)) 0 0 (va_A ([(hm, .inr (5, [.ref (am 1), .ref (am 2), .ref (am 3), .ref (am 4), .ref (am 5), .ref (am 6), .ref (am 7), .ref (am 8), .int 0, .ref (am 9), .int 0, .ref (am 10), .int 0, .ref (am 11), .ref (am 12), .int 0, .int 0, .int 1, .null, .null, .int 0, .int 0, .int 0, .long 0, .int 0, .ref (am 13), .int 0, .int 0, .int 0, .ref (am 14), .ref (am 15), .ref (am 16), .ref (am 17), .int 0, .ref (am 18), .ref (am 19), .ref (am 20)])), ((am 9), .inl (k 0, 8, .inl (fun _ => 0)))]) sz) := by
  refine gx_metE (Qc := fun A => gx_Qi D (fun (r : Int32) (u : Unit) => r = -2) (fun (u : Unit) => ([] : va_W)) A) (y := yX7_head) (cc := cX7_head) (n := 6) (ret := (some .int)) (av := [.ref hm, .int av]) (by decide) (Nat.le_of_ble_eq_true rfl) ?_
  intro p e s m below meth c A ls C hA hP hD hK hS hl
  obtain ⟨hx, hb, hr, hml, hown, hT, hlk, hin⟩ := id C
  have hown : s.vm.findClass RX7 = some m.cls := hown
  have hl : lv_has ls 6 [(0, .ref hm), (1, .int av)] := hl
  refine lv_aload_n hx hb dX7_head_0 rfl (lv_at hl 0 rfl) ?_
  refine lv_iload_n hx hb dX7_head_1 rfl (lv_at hl 1 rfl) ?_
  refine gx_pi hP hS (gx_runV (na := 1) (As := [.int av]) (rest := []) (ci := 5) C hl.1 hK (gx_subP (wc := ([(hm, .inr (5, [.ref (am 1), .ref (am 2), .ref (am 3), .ref (am 4), .ref (am 5), .ref (am 6), .ref (am 7), .ref (am 8), .int 0, .ref (am 9), .int 0, .ref (am 10), .int 0, .ref (am 11), .ref (am 12), .int 0, .int 0, .int 1, .null, .null, .int 0, .int 0, .int 0, .long 0, .int 0, .ref (am 13), .int 0, .int 0, .int 0, .ref (am 14), .ref (am 15), .ref (am 16), .ref (am 17), .int 0, .ref (am 18), .ref (am 19), .ref (am 20)]))] : va_W)) hP [0] rfl) ((hD.sub (ws' := ([(hm, .inr (5, [.ref (am 1), .ref (am 2), .ref (am 3), .ref (am 4), .ref (am 5), .ref (am 6), .ref (am 7), .ref (am 8), .int 0, .ref (am 9), .int 0, .ref (am 10), .int 0, .ref (am 11), .ref (am 12), .int 0, .int 0, .int 1, .null, .null, .int 0, .int 0, .int 0, .long 0, .int 0, .ref (am 13), .int 0, .int 0, .int 0, .ref (am 14), .ref (am 15), .ref (am 16), .ref (am 17), .int 0, .ref (am 18), .ref (am 19), .ref (am 20)]))] : va_W)) [0] (by decide) rfl).weaken (fun _ _ _ _ => trivial)) (m_isOne l D k hm am av _) gV_RX7_235 (by decide +kernel) rfl rfl ⟨Nat.le_of_ble_eq_true rfl, Nat.le_of_ble_eq_true rfl⟩ rfl rfl rfl rfl (Nat.le_of_ble_eq_true rfl) dX7_head_2 ⟨Nat.le_of_ble_eq_true rfl, Nat.le_of_ble_eq_true rfl⟩) (fun r_2 H locs c_1 hP hS => ?_)
  have c_1 : r_2 = 0 := c_1
  subst c_1
  refine lv_if_ne (tgt := 15) hx hb dX7_head_5 (by decide) (fun c_3 => absurd (by decide) c_3) (fun c_3 => ?_)
  refine lv_aload_n hx hb dX7_head_8 rfl (lv_at hl 0 rfl) ?_
  refine lv_bipush (v := (-2)) hx hb dX7_head_9 (by decide) ?_
  refine gx_ei (wc := ([(hm, .inr (5, [.ref (am 1), .ref (am 2), .ref (am 3), .ref (am 4), .ref (am 5), .ref (am 6), .ref (am 7), .ref (am 8), .int 0, .ref (am 9), .int 0, .ref (am 10), .int 0, .ref (am 11), .ref (am 12), .int 0, .int 0, .int 1, .null, .null, .int 0, .int 0, .int 0, .long 0, .int 0, .ref (am 13), .int 0, .int 0, .int 0, .ref (am 14), .ref (am 15), .ref (am 16), .ref (am 17), .int 0, .ref (am 18), .ref (am 19), .ref (am 20)])), ((am 9), .inl (k 0, 8, .inl (fun _ => 0)))] : va_W)) (wr := []) (isC := [0, 1]) (isR := []) hP hD hS hA rfl rfl (by decide) (by decide) (gx_runV (na := 1) (As := [.int (-2)]) (rest := []) (ci := 5) C hl.1 hK (gx_subP (wc := ([(hm, .inr (5, [.ref (am 1), .ref (am 2), .ref (am 3), .ref (am 4), .ref (am 5), .ref (am 6), .ref (am 7), .ref (am 8), .int 0, .ref (am 9), .int 0, .ref (am 10), .int 0, .ref (am 11), .ref (am 12), .int 0, .int 0, .int 1, .null, .null, .int 0, .int 0, .int 0, .long 0, .int 0, .ref (am 13), .int 0, .int 0, .int 0, .ref (am 14), .ref (am 15), .ref (am 16), .ref (am 17), .int 0, .ref (am 18), .ref (am 19), .ref (am 20)])), ((am 9), .inl (k 0, 8, .inl (fun _ => 0)))] : va_W)) hP [0, 1] rfl) ((hD.sub (ws' := ([(hm, .inr (5, [.ref (am 1), .ref (am 2), .ref (am 3), .ref (am 4), .ref (am 5), .ref (am 6), .ref (am 7), .ref (am 8), .int 0, .ref (am 9), .int 0, .ref (am 10), .int 0, .ref (am 11), .ref (am 12), .int 0, .int 0, .int 1, .null, .null, .int 0, .int 0, .int 0, .long 0, .int 0, .ref (am 13), .int 0, .int 0, .int 0, .ref (am 14), .ref (am 15), .ref (am 16), .ref (am 17), .int 0, .ref (am 18), .ref (am 19), .ref (am 20)])), ((am 9), .inl (k 0, 8, .inl (fun _ => 0)))] : va_W)) [0, 1] (by decide) rfl).weaken (fun _ _ _ _ => trivial)) (m_refuse2 l D k hm am .null .null 0 _) gV_RX7_95 (by decide +kernel) rfl rfl ⟨Nat.le_of_ble_eq_true rfl, Nat.le_of_ble_eq_true rfl⟩ rfl rfl rfl rfl (Nat.le_of_ble_eq_true rfl) dX7_head_11 ⟨Nat.le_of_ble_eq_true rfl, Nat.le_of_ble_eq_true rfl⟩) (fun r_6 u_4 H locs h_5 hP hD hS => ?_)
  have h_5 : r_6 = -2 := h_5
  have hP : va_P D gx_cl [] H := hP
  have hD : va_D A [] := hD
  have eh_5 := h_5
  subst eh_5
  exact gx_retI C (u := ()) gx_nil gx_noneD hS (rfl) dX7_head_14
set_option maxHeartbeats 4000000 in
set_option maxRecDepth 100000 in
theorem m_lives_pub (l : Launch) (D : va_G) (k : Nat → ClassId) (hm : Nat) (am : Nat → Nat) (av : Int32) (bv : Int32) (cv : Int32) (sz : Nat) : Met l yX7_lives (.code yX7_lives cX7_lives 5 (some .int) :: gx_T) ({ frames := 2, cells := 0, slots := 0, locals := 46 }) (gx_Pre D k [.ref hm, .int av, .int bv, .int cv] ([(hm, .inr (5, [.ref (am 1), .ref (am 2), .ref (am 3), .ref (am 4), .ref (am 5), .ref (am 6), .ref (am 7), .ref (am 8), .int 0, .ref (am 9), .int 0, .ref (am 10), .int 0, .ref (am 11), .ref (am 12), .int 0, .int 0, .int 1, .null, .null, .int 0, .int 0, .int 0, .long 0, .int 0, .ref (am 13), .int 0, .int 0, .int 0, .ref (am 14), .ref (am 15), .ref (am 16), .ref (am 17), .int 0, .ref (am 18), .ref (am 19), .ref (am 20)])), ((am 9), .inl (k 0, 8, .inl (fun _ => 0)))]) sz) (gx_Qi D (fun (r : Int32) (u : Unit) => r = -2) (fun (u : Unit) => ([] : va_W)) (va_A ([(hm, .inr (5, [.ref (am 1), .ref (am 2), .ref (am 3), .ref (am 4), .ref (am 5), .ref (am 6), .ref (am 7), .ref (am 8), .int 0, .ref (am 9), .int 0, .ref (am 10), .int 0, .ref (am 11), .ref (am 12), .int 0, .int 0, .int 1, .null, .null, .int 0, .int 0, .int 0, .long 0, .int 0, .ref (am 13), .int 0, .int 0, .int 0, .ref (am 14), .ref (am 15), .ref (am 16), .ref (am 17), .int 0, .ref (am 18), .ref (am 19), .ref (am 20)])), ((am 9), .inl (k 0, 8, .inl (fun _ => 0)))]) sz)) 0 0 (va_A ([(hm, .inr (5, [.ref (am 1), .ref (am 2), .ref (am 3), .ref (am 4), .ref (am 5), .ref (am 6), .ref (am 7), .ref (am 8), .int 0, .ref (am 9), .int 0, .ref (am 10), .int 0, .ref (am 11), .ref (am 12), .int 0, .int 0, .int 1, .null, .null, .int 0, .int 0, .int 0, .long 0, .int 0, .ref (am 13), .int 0, .int 0, .int 0, .ref (am 14), .ref (am 15), .ref (am 16), .ref (am 17), .int 0, .ref (am 18), .ref (am 19), .ref (am 20)])), ((am 9), .inl (k 0, 8, .inl (fun _ => 0)))]) sz) := by
  refine gx_metE (Qc := fun A => gx_Qi D (fun (r : Int32) (u : Unit) => r = -2) (fun (u : Unit) => ([] : va_W)) A) (y := yX7_lives) (cc := cX7_lives) (n := 5) (ret := (some .int)) (av := [.ref hm, .int av, .int bv, .int cv]) (by decide) (Nat.le_of_ble_eq_true rfl) ?_
  intro p e s m below meth c A ls C hA hP hD hK hS hl
  obtain ⟨hx, hb, hr, hml, hown, hT, hlk, hin⟩ := id C
  have hown : s.vm.findClass RX7 = some m.cls := hown
  have hl : lv_has ls 5 [(0, .ref hm), (1, .int av), (2, .int bv), (3, .int cv)] := hl
  refine lv_iload_n hx hb dX7_lives_0 rfl (lv_at hl 1 rfl) ?_
  refine lv_i2l (v := (av).toInt64) hx hb dX7_lives_1 (rfl) ?_
  refine lv_lconst (v := 0) hx hb dX7_lives_2 (by decide) ?_
  refine lv_ldc2 (v := 7) hx hb hown (hT _ wd_1046) dX7_lives_3 ?_
  refine gx_pi hP hS (gx_runS (na := 3) (As := [.long ((av).toInt64), .long 0, .long 7]) (rest := []) C hl.1 hK (gx_subP (wc := ([] : va_W)) hP [] rfl) ((hD.sub (ws' := ([] : va_W)) [] (by decide) rfl).weaken (fun _ _ _ _ => trivial)) (m_in l D k av 0 7 0 7 (by decide) (by decide) _) gS_RX7_82 (by decide +kernel) rfl rfl ⟨Nat.le_of_ble_eq_true rfl, Nat.le_of_ble_eq_true rfl⟩ rfl rfl (Nat.le_of_ble_eq_true rfl) dX7_lives_6 ⟨Nat.le_of_ble_eq_true rfl, Nat.le_of_ble_eq_true rfl⟩) (fun r_2 H locs pc_1 hP hS => ?_)
  have oc_1 : r_2 = 1 ∧ gx_b av 0 7 = true ∨ r_2 = 0 ∧ gx_b av 0 7 = false := pc_1
  clear pc_1
  rcases oc_1 with ⟨rfl, c_1⟩ | ⟨rfl, c_1⟩
  · refine lv_if_eq (tgt := 32) hx hb dX7_lives_9 (by decide) (fun c_3 => absurd c_3 (by decide)) (fun c_3 => ?_)
    refine lv_aload_n hx hb dX7_lives_12 rfl (lv_at hl 0 rfl) ?_
    refine lv_iload_n hx hb dX7_lives_13 rfl (lv_at hl 2 rfl) ?_
    refine gx_pi hP hS (gx_runV (na := 1) (As := [.int bv]) (rest := []) (ci := 5) C hl.1 hK (gx_subP (wc := ([(hm, .inr (5, [.ref (am 1), .ref (am 2), .ref (am 3), .ref (am 4), .ref (am 5), .ref (am 6), .ref (am 7), .ref (am 8), .int 0, .ref (am 9), .int 0, .ref (am 10), .int 0, .ref (am 11), .ref (am 12), .int 0, .int 0, .int 1, .null, .null, .int 0, .int 0, .int 0, .long 0, .int 0, .ref (am 13), .int 0, .int 0, .int 0, .ref (am 14), .ref (am 15), .ref (am 16), .ref (am 17), .int 0, .ref (am 18), .ref (am 19), .ref (am 20)]))] : va_W)) hP [0] rfl) ((hD.sub (ws' := ([(hm, .inr (5, [.ref (am 1), .ref (am 2), .ref (am 3), .ref (am 4), .ref (am 5), .ref (am 6), .ref (am 7), .ref (am 8), .int 0, .ref (am 9), .int 0, .ref (am 10), .int 0, .ref (am 11), .ref (am 12), .int 0, .int 0, .int 1, .null, .null, .int 0, .int 0, .int 0, .long 0, .int 0, .ref (am 13), .int 0, .int 0, .int 0, .ref (am 14), .ref (am 15), .ref (am 16), .ref (am 17), .int 0, .ref (am 18), .ref (am 19), .ref (am 20)]))] : va_W)) [0] (by decide) rfl).weaken (fun _ _ _ _ => trivial)) (m_isOne l D k hm am bv _) gV_RX7_235 (by decide +kernel) rfl rfl ⟨Nat.le_of_ble_eq_true rfl, Nat.le_of_ble_eq_true rfl⟩ rfl rfl rfl rfl (Nat.le_of_ble_eq_true rfl) dX7_lives_14 ⟨Nat.le_of_ble_eq_true rfl, Nat.le_of_ble_eq_true rfl⟩) (fun r_5 H locs c_4 hP hS => ?_)
    have c_4 : r_5 = 0 := c_4
    subst c_4
    refine lv_if_eq (tgt := 32) hx hb dX7_lives_17 (by decide) (fun c_6 => ?_) (fun c_6 => absurd (by decide) c_6)
    refine lv_aload_n hx hb dX7_lives_32 rfl (lv_at hl 0 rfl) ?_
    refine lv_bipush (v := (-2)) hx hb dX7_lives_33 (by decide) ?_
    refine gx_ei (wc := ([(hm, .inr (5, [.ref (am 1), .ref (am 2), .ref (am 3), .ref (am 4), .ref (am 5), .ref (am 6), .ref (am 7), .ref (am 8), .int 0, .ref (am 9), .int 0, .ref (am 10), .int 0, .ref (am 11), .ref (am 12), .int 0, .int 0, .int 1, .null, .null, .int 0, .int 0, .int 0, .long 0, .int 0, .ref (am 13), .int 0, .int 0, .int 0, .ref (am 14), .ref (am 15), .ref (am 16), .ref (am 17), .int 0, .ref (am 18), .ref (am 19), .ref (am 20)])), ((am 9), .inl (k 0, 8, .inl (fun _ => 0)))] : va_W)) (wr := []) (isC := [0, 1]) (isR := []) hP hD hS hA rfl rfl (by decide) (by decide) (gx_runV (na := 1) (As := [.int (-2)]) (rest := []) (ci := 5) C hl.1 hK (gx_subP (wc := ([(hm, .inr (5, [.ref (am 1), .ref (am 2), .ref (am 3), .ref (am 4), .ref (am 5), .ref (am 6), .ref (am 7), .ref (am 8), .int 0, .ref (am 9), .int 0, .ref (am 10), .int 0, .ref (am 11), .ref (am 12), .int 0, .int 0, .int 1, .null, .null, .int 0, .int 0, .int 0, .long 0, .int 0, .ref (am 13), .int 0, .int 0, .int 0, .ref (am 14), .ref (am 15), .ref (am 16), .ref (am 17), .int 0, .ref (am 18), .ref (am 19), .ref (am 20)])), ((am 9), .inl (k 0, 8, .inl (fun _ => 0)))] : va_W)) hP [0, 1] rfl) ((hD.sub (ws' := ([(hm, .inr (5, [.ref (am 1), .ref (am 2), .ref (am 3), .ref (am 4), .ref (am 5), .ref (am 6), .ref (am 7), .ref (am 8), .int 0, .ref (am 9), .int 0, .ref (am 10), .int 0, .ref (am 11), .ref (am 12), .int 0, .int 0, .int 1, .null, .null, .int 0, .int 0, .int 0, .long 0, .int 0, .ref (am 13), .int 0, .int 0, .int 0, .ref (am 14), .ref (am 15), .ref (am 16), .ref (am 17), .int 0, .ref (am 18), .ref (am 19), .ref (am 20)])), ((am 9), .inl (k 0, 8, .inl (fun _ => 0)))] : va_W)) [0, 1] (by decide) rfl).weaken (fun _ _ _ _ => trivial)) (m_refuse2 l D k hm am .null .null 0 _) gV_RX7_95 (by decide +kernel) rfl rfl ⟨Nat.le_of_ble_eq_true rfl, Nat.le_of_ble_eq_true rfl⟩ rfl rfl rfl rfl (Nat.le_of_ble_eq_true rfl) dX7_lives_35 ⟨Nat.le_of_ble_eq_true rfl, Nat.le_of_ble_eq_true rfl⟩) (fun r_9 u_7 H locs h_8 hP hD hS => ?_)
    have h_8 : r_9 = -2 := h_8
    have hP : va_P D gx_cl [] H := hP
    have hD : va_D A [] := hD
    have eh_8 := h_8
    subst eh_8
    exact gx_retI C (u := ()) gx_nil gx_noneD hS (rfl) dX7_lives_38
  · refine lv_if_eq (tgt := 32) hx hb dX7_lives_9 (by decide) (fun c_11 => ?_) (fun c_11 => absurd (by decide) c_11)
    refine lv_aload_n hx hb dX7_lives_32 rfl (lv_at hl 0 rfl) ?_
    refine lv_bipush (v := (-2)) hx hb dX7_lives_33 (by decide) ?_
    refine gx_ei (wc := ([(hm, .inr (5, [.ref (am 1), .ref (am 2), .ref (am 3), .ref (am 4), .ref (am 5), .ref (am 6), .ref (am 7), .ref (am 8), .int 0, .ref (am 9), .int 0, .ref (am 10), .int 0, .ref (am 11), .ref (am 12), .int 0, .int 0, .int 1, .null, .null, .int 0, .int 0, .int 0, .long 0, .int 0, .ref (am 13), .int 0, .int 0, .int 0, .ref (am 14), .ref (am 15), .ref (am 16), .ref (am 17), .int 0, .ref (am 18), .ref (am 19), .ref (am 20)])), ((am 9), .inl (k 0, 8, .inl (fun _ => 0)))] : va_W)) (wr := []) (isC := [0, 1]) (isR := []) hP hD hS hA rfl rfl (by decide) (by decide) (gx_runV (na := 1) (As := [.int (-2)]) (rest := []) (ci := 5) C hl.1 hK (gx_subP (wc := ([(hm, .inr (5, [.ref (am 1), .ref (am 2), .ref (am 3), .ref (am 4), .ref (am 5), .ref (am 6), .ref (am 7), .ref (am 8), .int 0, .ref (am 9), .int 0, .ref (am 10), .int 0, .ref (am 11), .ref (am 12), .int 0, .int 0, .int 1, .null, .null, .int 0, .int 0, .int 0, .long 0, .int 0, .ref (am 13), .int 0, .int 0, .int 0, .ref (am 14), .ref (am 15), .ref (am 16), .ref (am 17), .int 0, .ref (am 18), .ref (am 19), .ref (am 20)])), ((am 9), .inl (k 0, 8, .inl (fun _ => 0)))] : va_W)) hP [0, 1] rfl) ((hD.sub (ws' := ([(hm, .inr (5, [.ref (am 1), .ref (am 2), .ref (am 3), .ref (am 4), .ref (am 5), .ref (am 6), .ref (am 7), .ref (am 8), .int 0, .ref (am 9), .int 0, .ref (am 10), .int 0, .ref (am 11), .ref (am 12), .int 0, .int 0, .int 1, .null, .null, .int 0, .int 0, .int 0, .long 0, .int 0, .ref (am 13), .int 0, .int 0, .int 0, .ref (am 14), .ref (am 15), .ref (am 16), .ref (am 17), .int 0, .ref (am 18), .ref (am 19), .ref (am 20)])), ((am 9), .inl (k 0, 8, .inl (fun _ => 0)))] : va_W)) [0, 1] (by decide) rfl).weaken (fun _ _ _ _ => trivial)) (m_refuse2 l D k hm am .null .null 0 _) gV_RX7_95 (by decide +kernel) rfl rfl ⟨Nat.le_of_ble_eq_true rfl, Nat.le_of_ble_eq_true rfl⟩ rfl rfl rfl rfl (Nat.le_of_ble_eq_true rfl) dX7_lives_35 ⟨Nat.le_of_ble_eq_true rfl, Nat.le_of_ble_eq_true rfl⟩) (fun r_14 u_12 H locs h_13 hP hD hS => ?_)
    have h_13 : r_14 = -2 := h_13
    have hP : va_P D gx_cl [] H := hP
    have hD : va_D A [] := hD
    have eh_13 := h_13
    subst eh_13
    exact gx_retI C (u := ()) gx_nil gx_noneD hS (rfl) dX7_lives_38
set_option maxHeartbeats 4000000 in
set_option maxRecDepth 100000 in
theorem m_judge_pub (l : Launch) (D : va_G) (k : Nat → ClassId) (hm : Nat) (am : Nat → Nat) (av : Int32) (bv : Int32) (cv : Int32) (sz : Nat) : Met l yX7_judge (.code yX7_judge cX7_judge 5 (some .int) :: gx_T) ({ frames := 3, cells := 0, slots := 0, locals := 71 }) (gx_Pre D k [.ref hm, .int av, .int bv, .int cv] ([(hm, .inr (5, [.ref (am 1), .ref (am 2), .ref (am 3), .ref (am 4), .ref (am 5), .ref (am 6), .ref (am 7), .ref (am 8), .int 0, .ref (am 9), .int 0, .ref (am 10), .int 0, .ref (am 11), .ref (am 12), .int 0, .int 0, .int 1, .null, .null, .int 0, .int 0, .int 0, .long 0, .int 0, .ref (am 13), .int 0, .int 0, .int 0, .ref (am 14), .ref (am 15), .ref (am 16), .ref (am 17), .int 0, .ref (am 18), .ref (am 19), .ref (am 20)])), ((am 9), .inl (k 0, 8, .inl (fun _ => 0)))]) sz) (gx_Qi D (fun (r : Int32) (u : Unit) => r = -2) (fun (u : Unit) => ([] : va_W)) (va_A ([(hm, .inr (5, [.ref (am 1), .ref (am 2), .ref (am 3), .ref (am 4), .ref (am 5), .ref (am 6), .ref (am 7), .ref (am 8), .int 0, .ref (am 9), .int 0, .ref (am 10), .int 0, .ref (am 11), .ref (am 12), .int 0, .int 0, .int 1, .null, .null, .int 0, .int 0, .int 0, .long 0, .int 0, .ref (am 13), .int 0, .int 0, .int 0, .ref (am 14), .ref (am 15), .ref (am 16), .ref (am 17), .int 0, .ref (am 18), .ref (am 19), .ref (am 20)])), ((am 9), .inl (k 0, 8, .inl (fun _ => 0)))]) sz)) 0 0 (va_A ([(hm, .inr (5, [.ref (am 1), .ref (am 2), .ref (am 3), .ref (am 4), .ref (am 5), .ref (am 6), .ref (am 7), .ref (am 8), .int 0, .ref (am 9), .int 0, .ref (am 10), .int 0, .ref (am 11), .ref (am 12), .int 0, .int 0, .int 1, .null, .null, .int 0, .int 0, .int 0, .long 0, .int 0, .ref (am 13), .int 0, .int 0, .int 0, .ref (am 14), .ref (am 15), .ref (am 16), .ref (am 17), .int 0, .ref (am 18), .ref (am 19), .ref (am 20)])), ((am 9), .inl (k 0, 8, .inl (fun _ => 0)))]) sz) := by
  refine gx_metE (Qc := fun A => gx_Qi D (fun (r : Int32) (u : Unit) => r = -2) (fun (u : Unit) => ([] : va_W)) A) (y := yX7_judge) (cc := cX7_judge) (n := 5) (ret := (some .int)) (av := [.ref hm, .int av, .int bv, .int cv]) (by decide) (Nat.le_of_ble_eq_true rfl) ?_
  intro p e s m below meth c A ls C hA hP hD hK hS hl
  obtain ⟨hx, hb, hr, hml, hown, hT, hlk, hin⟩ := id C
  have hown : s.vm.findClass RX7 = some m.cls := hown
  have hl : lv_has ls 5 [(0, .ref hm), (1, .int av), (2, .int bv), (3, .int cv)] := hl
  refine lv_aload_n hx hb dX7_judge_0 rfl (lv_at hl 0 rfl) ?_
  refine lv_iload_n hx hb dX7_judge_1 rfl (lv_at hl 1 rfl) ?_
  refine lv_iload_n hx hb dX7_judge_2 rfl (lv_at hl 2 rfl) ?_
  refine lv_iload_n hx hb dX7_judge_3 rfl (lv_at hl 3 rfl) ?_
  refine lv_bipush (v := 20) hx hb dX7_judge_4 (by decide) ?_
  refine gx_ei (wc := ([(hm, .inr (5, [.ref (am 1), .ref (am 2), .ref (am 3), .ref (am 4), .ref (am 5), .ref (am 6), .ref (am 7), .ref (am 8), .int 0, .ref (am 9), .int 0, .ref (am 10), .int 0, .ref (am 11), .ref (am 12), .int 0, .int 0, .int 1, .null, .null, .int 0, .int 0, .int 0, .long 0, .int 0, .ref (am 13), .int 0, .int 0, .int 0, .ref (am 14), .ref (am 15), .ref (am 16), .ref (am 17), .int 0, .ref (am 18), .ref (am 19), .ref (am 20)])), ((am 9), .inl (k 0, 8, .inl (fun _ => 0)))] : va_W)) (wr := []) (isC := [0, 1]) (isR := []) hP hD hS hA rfl rfl (by decide) (by decide) (gx_runV (na := 4) (As := [.int av, .int bv, .int cv, .int 20]) (rest := []) (ci := 5) C hl.1 hK (gx_subP (wc := ([(hm, .inr (5, [.ref (am 1), .ref (am 2), .ref (am 3), .ref (am 4), .ref (am 5), .ref (am 6), .ref (am 7), .ref (am 8), .int 0, .ref (am 9), .int 0, .ref (am 10), .int 0, .ref (am 11), .ref (am 12), .int 0, .int 0, .int 1, .null, .null, .int 0, .int 0, .int 0, .long 0, .int 0, .ref (am 13), .int 0, .int 0, .int 0, .ref (am 14), .ref (am 15), .ref (am 16), .ref (am 17), .int 0, .ref (am 18), .ref (am 19), .ref (am 20)])), ((am 9), .inl (k 0, 8, .inl (fun _ => 0)))] : va_W)) hP [0, 1] rfl) ((hD.sub (ws' := ([(hm, .inr (5, [.ref (am 1), .ref (am 2), .ref (am 3), .ref (am 4), .ref (am 5), .ref (am 6), .ref (am 7), .ref (am 8), .int 0, .ref (am 9), .int 0, .ref (am 10), .int 0, .ref (am 11), .ref (am 12), .int 0, .int 0, .int 1, .null, .null, .int 0, .int 0, .int 0, .long 0, .int 0, .ref (am 13), .int 0, .int 0, .int 0, .ref (am 14), .ref (am 15), .ref (am 16), .ref (am 17), .int 0, .ref (am 18), .ref (am 19), .ref (am 20)])), ((am 9), .inl (k 0, 8, .inl (fun _ => 0)))] : va_W)) [0, 1] (by decide) rfl).weaken (fun _ _ _ _ => trivial)) (m_noTold l D k hm am av bv cv 20 _) gV_RX7_293 (by decide +kernel) rfl rfl ⟨Nat.le_of_ble_eq_true rfl, Nat.le_of_ble_eq_true rfl⟩ rfl rfl rfl rfl (Nat.le_of_ble_eq_true rfl) dX7_judge_6 ⟨Nat.le_of_ble_eq_true rfl, Nat.le_of_ble_eq_true rfl⟩) (fun r_3 u_1 H locs h_2 hP hD hS => ?_)
  have h_2 : r_3 = -2 := h_2
  have hP : va_P D gx_cl [] H := hP
  have hD : va_D A [] := hD
  have eh_2 := h_2
  subst eh_2
  refine lv_istore (lv' := [(4, .int (-2)), (0, .ref hm), (1, .int av), (2, .int bv), (3, .int cv)]) hx hb dX7_judge_9 hl (by decide) rfl (fun ls hl => ?_)
  refine lv_iload hx hb dX7_judge_11 (lv_at hl 0 rfl) ?_
  refine lv_if_eq (tgt := 21) hx hb dX7_judge_13 (by decide) (fun c_5 => absurd c_5 (by decide)) (fun c_5 => ?_)
  refine lv_iload hx hb dX7_judge_16 (lv_at hl 0 rfl) ?_
  refine lv_goto (tgt := 28) hx hb dX7_judge_18 (by decide) ?_
  exact gx_retI C (u := ()) gx_nil gx_noneD hS (rfl) dX7_judge_28
set_option maxHeartbeats 4000000 in
set_option maxRecDepth 100000 in
theorem m_told_pub (l : Launch) (D : va_G) (k : Nat → ClassId) (hm : Nat) (am : Nat → Nat) (av : Int32) (bv : Int32) (cv : Int32) (dv : Int32) (sz : Nat) : Met l yX7_told (.code yX7_told cX7_told 6 (some .int) :: gx_T) ({ frames := 3, cells := 0, slots := 0, locals := 71 }) (gx_Pre D k [.ref hm, .int av, .int bv, .int cv, .int dv] ([(hm, .inr (5, [.ref (am 1), .ref (am 2), .ref (am 3), .ref (am 4), .ref (am 5), .ref (am 6), .ref (am 7), .ref (am 8), .int 0, .ref (am 9), .int 0, .ref (am 10), .int 0, .ref (am 11), .ref (am 12), .int 0, .int 0, .int 1, .null, .null, .int 0, .int 0, .int 0, .long 0, .int 0, .ref (am 13), .int 0, .int 0, .int 0, .ref (am 14), .ref (am 15), .ref (am 16), .ref (am 17), .int 0, .ref (am 18), .ref (am 19), .ref (am 20)])), ((am 9), .inl (k 0, 8, .inl (fun _ => 0)))]) sz) (gx_Qi D (fun (r : Int32) (u : Unit) => r = -2) (fun (u : Unit) => ([] : va_W)) (va_A ([(hm, .inr (5, [.ref (am 1), .ref (am 2), .ref (am 3), .ref (am 4), .ref (am 5), .ref (am 6), .ref (am 7), .ref (am 8), .int 0, .ref (am 9), .int 0, .ref (am 10), .int 0, .ref (am 11), .ref (am 12), .int 0, .int 0, .int 1, .null, .null, .int 0, .int 0, .int 0, .long 0, .int 0, .ref (am 13), .int 0, .int 0, .int 0, .ref (am 14), .ref (am 15), .ref (am 16), .ref (am 17), .int 0, .ref (am 18), .ref (am 19), .ref (am 20)])), ((am 9), .inl (k 0, 8, .inl (fun _ => 0)))]) sz)) 0 0 (va_A ([(hm, .inr (5, [.ref (am 1), .ref (am 2), .ref (am 3), .ref (am 4), .ref (am 5), .ref (am 6), .ref (am 7), .ref (am 8), .int 0, .ref (am 9), .int 0, .ref (am 10), .int 0, .ref (am 11), .ref (am 12), .int 0, .int 0, .int 1, .null, .null, .int 0, .int 0, .int 0, .long 0, .int 0, .ref (am 13), .int 0, .int 0, .int 0, .ref (am 14), .ref (am 15), .ref (am 16), .ref (am 17), .int 0, .ref (am 18), .ref (am 19), .ref (am 20)])), ((am 9), .inl (k 0, 8, .inl (fun _ => 0)))]) sz) := by
  refine gx_metE (Qc := fun A => gx_Qi D (fun (r : Int32) (u : Unit) => r = -2) (fun (u : Unit) => ([] : va_W)) A) (y := yX7_told) (cc := cX7_told) (n := 6) (ret := (some .int)) (av := [.ref hm, .int av, .int bv, .int cv, .int dv]) (by decide) (Nat.le_of_ble_eq_true rfl) ?_
  intro p e s m below meth c A ls C hA hP hD hK hS hl
  obtain ⟨hx, hb, hr, hml, hown, hT, hlk, hin⟩ := id C
  have hown : s.vm.findClass RX7 = some m.cls := hown
  have hl : lv_has ls 6 [(0, .ref hm), (1, .int av), (2, .int bv), (3, .int cv), (4, .int dv)] := hl
  refine lv_iload hx hb dX7_told_0 (lv_at hl 4 rfl) ?_
  refine lv_i2l (v := (dv).toInt64) hx hb dX7_told_2 (rfl) ?_
  refine lv_lconst (v := 0) hx hb dX7_told_3 (by decide) ?_
  refine lv_ldc2 (v := 2) hx hb hown (hT _ wd_1329) dX7_told_4 ?_
  refine gx_pi hP hS (gx_runS (na := 3) (As := [.long ((dv).toInt64), .long 0, .long 2]) (rest := []) C hl.1 hK (gx_subP (wc := ([] : va_W)) hP [] rfl) ((hD.sub (ws' := ([] : va_W)) [] (by decide) rfl).weaken (fun _ _ _ _ => trivial)) (m_in l D k dv 0 2 0 2 (by decide) (by decide) _) gS_RX7_82 (by decide +kernel) rfl rfl ⟨Nat.le_of_ble_eq_true rfl, Nat.le_of_ble_eq_true rfl⟩ rfl rfl (Nat.le_of_ble_eq_true rfl) dX7_told_7 ⟨Nat.le_of_ble_eq_true rfl, Nat.le_of_ble_eq_true rfl⟩) (fun r_2 H locs pc_1 hP hS => ?_)
  have oc_1 : r_2 = 1 ∧ gx_b dv 0 2 = true ∨ r_2 = 0 ∧ gx_b dv 0 2 = false := pc_1
  clear pc_1
  rcases oc_1 with ⟨rfl, c_1⟩ | ⟨rfl, c_1⟩
  · refine lv_if_ne (tgt := 20) hx hb dX7_told_10 (by decide) (fun c_3 => ?_) (fun c_3 => absurd c_3 (by decide))
    refine lv_aload_n hx hb dX7_told_20 rfl (lv_at hl 0 rfl) ?_
    refine lv_iload_n hx hb dX7_told_21 rfl (lv_at hl 1 rfl) ?_
    refine lv_iload_n hx hb dX7_told_22 rfl (lv_at hl 2 rfl) ?_
    refine lv_iload_n hx hb dX7_told_23 rfl (lv_at hl 3 rfl) ?_
    refine lv_bipush (v := 20) hx hb dX7_told_24 (by decide) ?_
    refine gx_ei (wc := ([(hm, .inr (5, [.ref (am 1), .ref (am 2), .ref (am 3), .ref (am 4), .ref (am 5), .ref (am 6), .ref (am 7), .ref (am 8), .int 0, .ref (am 9), .int 0, .ref (am 10), .int 0, .ref (am 11), .ref (am 12), .int 0, .int 0, .int 1, .null, .null, .int 0, .int 0, .int 0, .long 0, .int 0, .ref (am 13), .int 0, .int 0, .int 0, .ref (am 14), .ref (am 15), .ref (am 16), .ref (am 17), .int 0, .ref (am 18), .ref (am 19), .ref (am 20)])), ((am 9), .inl (k 0, 8, .inl (fun _ => 0)))] : va_W)) (wr := []) (isC := [0, 1]) (isR := []) hP hD hS hA rfl rfl (by decide) (by decide) (gx_runV (na := 4) (As := [.int av, .int bv, .int cv, .int 20]) (rest := []) (ci := 5) C hl.1 hK (gx_subP (wc := ([(hm, .inr (5, [.ref (am 1), .ref (am 2), .ref (am 3), .ref (am 4), .ref (am 5), .ref (am 6), .ref (am 7), .ref (am 8), .int 0, .ref (am 9), .int 0, .ref (am 10), .int 0, .ref (am 11), .ref (am 12), .int 0, .int 0, .int 1, .null, .null, .int 0, .int 0, .int 0, .long 0, .int 0, .ref (am 13), .int 0, .int 0, .int 0, .ref (am 14), .ref (am 15), .ref (am 16), .ref (am 17), .int 0, .ref (am 18), .ref (am 19), .ref (am 20)])), ((am 9), .inl (k 0, 8, .inl (fun _ => 0)))] : va_W)) hP [0, 1] rfl) ((hD.sub (ws' := ([(hm, .inr (5, [.ref (am 1), .ref (am 2), .ref (am 3), .ref (am 4), .ref (am 5), .ref (am 6), .ref (am 7), .ref (am 8), .int 0, .ref (am 9), .int 0, .ref (am 10), .int 0, .ref (am 11), .ref (am 12), .int 0, .int 0, .int 1, .null, .null, .int 0, .int 0, .int 0, .long 0, .int 0, .ref (am 13), .int 0, .int 0, .int 0, .ref (am 14), .ref (am 15), .ref (am 16), .ref (am 17), .int 0, .ref (am 18), .ref (am 19), .ref (am 20)])), ((am 9), .inl (k 0, 8, .inl (fun _ => 0)))] : va_W)) [0, 1] (by decide) rfl).weaken (fun _ _ _ _ => trivial)) (m_noTold l D k hm am av bv cv 20 _) gV_RX7_293 (by decide +kernel) rfl rfl ⟨Nat.le_of_ble_eq_true rfl, Nat.le_of_ble_eq_true rfl⟩ rfl rfl rfl rfl (Nat.le_of_ble_eq_true rfl) dX7_told_26 ⟨Nat.le_of_ble_eq_true rfl, Nat.le_of_ble_eq_true rfl⟩) (fun r_6 u_4 H locs h_5 hP hD hS => ?_)
    have h_5 : r_6 = -2 := h_5
    have hP : va_P D gx_cl [] H := hP
    have hD : va_D A [] := hD
    have eh_5 := h_5
    subst eh_5
    refine lv_istore (lv' := [(5, .int (-2)), (0, .ref hm), (1, .int av), (2, .int bv), (3, .int cv), (4, .int dv)]) hx hb dX7_told_29 hl (by decide) rfl (fun ls hl => ?_)
    refine lv_iload hx hb dX7_told_31 (lv_at hl 0 rfl) ?_
    refine lv_if_eq (tgt := 39) hx hb dX7_told_33 (by decide) (fun c_8 => absurd c_8 (by decide)) (fun c_8 => ?_)
    refine lv_iload hx hb dX7_told_36 (lv_at hl 0 rfl) ?_
    exact gx_retI C (u := ()) gx_nil gx_noneD hS (rfl) dX7_told_38
  · refine lv_if_ne (tgt := 20) hx hb dX7_told_10 (by decide) (fun c_9 => absurd (by decide) c_9) (fun c_9 => ?_)
    refine lv_aload_n hx hb dX7_told_13 rfl (lv_at hl 0 rfl) ?_
    refine lv_bipush (v := (-2)) hx hb dX7_told_14 (by decide) ?_
    refine gx_ei (wc := ([(hm, .inr (5, [.ref (am 1), .ref (am 2), .ref (am 3), .ref (am 4), .ref (am 5), .ref (am 6), .ref (am 7), .ref (am 8), .int 0, .ref (am 9), .int 0, .ref (am 10), .int 0, .ref (am 11), .ref (am 12), .int 0, .int 0, .int 1, .null, .null, .int 0, .int 0, .int 0, .long 0, .int 0, .ref (am 13), .int 0, .int 0, .int 0, .ref (am 14), .ref (am 15), .ref (am 16), .ref (am 17), .int 0, .ref (am 18), .ref (am 19), .ref (am 20)])), ((am 9), .inl (k 0, 8, .inl (fun _ => 0)))] : va_W)) (wr := []) (isC := [0, 1]) (isR := []) hP hD hS hA rfl rfl (by decide) (by decide) (gx_runV (na := 1) (As := [.int (-2)]) (rest := []) (ci := 5) C hl.1 hK (gx_subP (wc := ([(hm, .inr (5, [.ref (am 1), .ref (am 2), .ref (am 3), .ref (am 4), .ref (am 5), .ref (am 6), .ref (am 7), .ref (am 8), .int 0, .ref (am 9), .int 0, .ref (am 10), .int 0, .ref (am 11), .ref (am 12), .int 0, .int 0, .int 1, .null, .null, .int 0, .int 0, .int 0, .long 0, .int 0, .ref (am 13), .int 0, .int 0, .int 0, .ref (am 14), .ref (am 15), .ref (am 16), .ref (am 17), .int 0, .ref (am 18), .ref (am 19), .ref (am 20)])), ((am 9), .inl (k 0, 8, .inl (fun _ => 0)))] : va_W)) hP [0, 1] rfl) ((hD.sub (ws' := ([(hm, .inr (5, [.ref (am 1), .ref (am 2), .ref (am 3), .ref (am 4), .ref (am 5), .ref (am 6), .ref (am 7), .ref (am 8), .int 0, .ref (am 9), .int 0, .ref (am 10), .int 0, .ref (am 11), .ref (am 12), .int 0, .int 0, .int 1, .null, .null, .int 0, .int 0, .int 0, .long 0, .int 0, .ref (am 13), .int 0, .int 0, .int 0, .ref (am 14), .ref (am 15), .ref (am 16), .ref (am 17), .int 0, .ref (am 18), .ref (am 19), .ref (am 20)])), ((am 9), .inl (k 0, 8, .inl (fun _ => 0)))] : va_W)) [0, 1] (by decide) rfl).weaken (fun _ _ _ _ => trivial)) (m_refuse2 l D k hm am .null .null 0 _) gV_RX7_95 (by decide +kernel) rfl rfl ⟨Nat.le_of_ble_eq_true rfl, Nat.le_of_ble_eq_true rfl⟩ rfl rfl rfl rfl (Nat.le_of_ble_eq_true rfl) dX7_told_16 ⟨Nat.le_of_ble_eq_true rfl, Nat.le_of_ble_eq_true rfl⟩) (fun r_12 u_10 H locs h_11 hP hD hS => ?_)
    have h_11 : r_12 = -2 := h_11
    have hP : va_P D gx_cl [] H := hP
    have hD : va_D A [] := hD
    have eh_11 := h_11
    subst eh_11
    exact gx_retI C (u := ()) gx_nil gx_noneD hS (rfl) dX7_told_19
set_option maxHeartbeats 4000000 in
set_option maxRecDepth 100000 in
theorem m_law_pub (l : Launch) (D : va_G) (k : Nat → ClassId) (hm : Nat) (am : Nat → Nat) (av : Int32) (bv : Int32) (sz : Nat) : Met l yX7_law (.code yX7_law cX7_law 7 (some .int) :: gx_T) ({ frames := 2, cells := 0, slots := 0, locals := 46 }) (gx_Pre D k [.ref hm, .int av, .int bv] ([(hm, .inr (5, [.ref (am 1), .ref (am 2), .ref (am 3), .ref (am 4), .ref (am 5), .ref (am 6), .ref (am 7), .ref (am 8), .int 0, .ref (am 9), .int 0, .ref (am 10), .int 0, .ref (am 11), .ref (am 12), .int 0, .int 0, .int 1, .null, .null, .int 0, .int 0, .int 0, .long 0, .int 0, .ref (am 13), .int 0, .int 0, .int 0, .ref (am 14), .ref (am 15), .ref (am 16), .ref (am 17), .int 0, .ref (am 18), .ref (am 19), .ref (am 20)])), ((am 9), .inl (k 0, 8, .inl (fun _ => 0)))]) sz) (gx_Qi D (fun (r : Int32) (u : Unit) => r = -2) (fun (u : Unit) => ([] : va_W)) (va_A ([(hm, .inr (5, [.ref (am 1), .ref (am 2), .ref (am 3), .ref (am 4), .ref (am 5), .ref (am 6), .ref (am 7), .ref (am 8), .int 0, .ref (am 9), .int 0, .ref (am 10), .int 0, .ref (am 11), .ref (am 12), .int 0, .int 0, .int 1, .null, .null, .int 0, .int 0, .int 0, .long 0, .int 0, .ref (am 13), .int 0, .int 0, .int 0, .ref (am 14), .ref (am 15), .ref (am 16), .ref (am 17), .int 0, .ref (am 18), .ref (am 19), .ref (am 20)])), ((am 9), .inl (k 0, 8, .inl (fun _ => 0)))]) sz)) 0 0 (va_A ([(hm, .inr (5, [.ref (am 1), .ref (am 2), .ref (am 3), .ref (am 4), .ref (am 5), .ref (am 6), .ref (am 7), .ref (am 8), .int 0, .ref (am 9), .int 0, .ref (am 10), .int 0, .ref (am 11), .ref (am 12), .int 0, .int 0, .int 1, .null, .null, .int 0, .int 0, .int 0, .long 0, .int 0, .ref (am 13), .int 0, .int 0, .int 0, .ref (am 14), .ref (am 15), .ref (am 16), .ref (am 17), .int 0, .ref (am 18), .ref (am 19), .ref (am 20)])), ((am 9), .inl (k 0, 8, .inl (fun _ => 0)))]) sz) := by
  refine gx_metE (Qc := fun A => gx_Qi D (fun (r : Int32) (u : Unit) => r = -2) (fun (u : Unit) => ([] : va_W)) A) (y := yX7_law) (cc := cX7_law) (n := 7) (ret := (some .int)) (av := [.ref hm, .int av, .int bv]) (by decide) (Nat.le_of_ble_eq_true rfl) ?_
  intro p e s m below meth c A ls C hA hP hD hK hS hl
  obtain ⟨hx, hb, hr, hml, hown, hT, hlk, hin⟩ := id C
  have hown : s.vm.findClass RX7 = some m.cls := hown
  have hl : lv_has ls 7 [(0, .ref hm), (1, .int av), (2, .int bv)] := hl
  refine lv_aload_n hx hb dX7_law_0 rfl (lv_at hl 0 rfl) ?_
  refine lv_iload_n hx hb dX7_law_1 rfl (lv_at hl 1 rfl) ?_
  refine gx_pi hP hS (gx_runV (na := 1) (As := [.int av]) (rest := []) (ci := 5) C hl.1 hK (gx_subP (wc := ([(hm, .inr (5, [.ref (am 1), .ref (am 2), .ref (am 3), .ref (am 4), .ref (am 5), .ref (am 6), .ref (am 7), .ref (am 8), .int 0, .ref (am 9), .int 0, .ref (am 10), .int 0, .ref (am 11), .ref (am 12), .int 0, .int 0, .int 1, .null, .null, .int 0, .int 0, .int 0, .long 0, .int 0, .ref (am 13), .int 0, .int 0, .int 0, .ref (am 14), .ref (am 15), .ref (am 16), .ref (am 17), .int 0, .ref (am 18), .ref (am 19), .ref (am 20)]))] : va_W)) hP [0] rfl) ((hD.sub (ws' := ([(hm, .inr (5, [.ref (am 1), .ref (am 2), .ref (am 3), .ref (am 4), .ref (am 5), .ref (am 6), .ref (am 7), .ref (am 8), .int 0, .ref (am 9), .int 0, .ref (am 10), .int 0, .ref (am 11), .ref (am 12), .int 0, .int 0, .int 1, .null, .null, .int 0, .int 0, .int 0, .long 0, .int 0, .ref (am 13), .int 0, .int 0, .int 0, .ref (am 14), .ref (am 15), .ref (am 16), .ref (am 17), .int 0, .ref (am 18), .ref (am 19), .ref (am 20)]))] : va_W)) [0] (by decide) rfl).weaken (fun _ _ _ _ => trivial)) (m_isOne l D k hm am av _) gV_RX7_235 (by decide +kernel) rfl rfl ⟨Nat.le_of_ble_eq_true rfl, Nat.le_of_ble_eq_true rfl⟩ rfl rfl rfl rfl (Nat.le_of_ble_eq_true rfl) dX7_law_2 ⟨Nat.le_of_ble_eq_true rfl, Nat.le_of_ble_eq_true rfl⟩) (fun r_2 H locs c_1 hP hS => ?_)
  have c_1 : r_2 = 0 := c_1
  subst c_1
  refine lv_if_eq (tgt := 20) hx hb dX7_law_5 (by decide) (fun c_3 => ?_) (fun c_3 => absurd (by decide) c_3)
  refine lv_aload_n hx hb dX7_law_20 rfl (lv_at hl 0 rfl) ?_
  refine lv_bipush (v := (-2)) hx hb dX7_law_21 (by decide) ?_
  refine gx_ei (wc := ([(hm, .inr (5, [.ref (am 1), .ref (am 2), .ref (am 3), .ref (am 4), .ref (am 5), .ref (am 6), .ref (am 7), .ref (am 8), .int 0, .ref (am 9), .int 0, .ref (am 10), .int 0, .ref (am 11), .ref (am 12), .int 0, .int 0, .int 1, .null, .null, .int 0, .int 0, .int 0, .long 0, .int 0, .ref (am 13), .int 0, .int 0, .int 0, .ref (am 14), .ref (am 15), .ref (am 16), .ref (am 17), .int 0, .ref (am 18), .ref (am 19), .ref (am 20)])), ((am 9), .inl (k 0, 8, .inl (fun _ => 0)))] : va_W)) (wr := []) (isC := [0, 1]) (isR := []) hP hD hS hA rfl rfl (by decide) (by decide) (gx_runV (na := 1) (As := [.int (-2)]) (rest := []) (ci := 5) C hl.1 hK (gx_subP (wc := ([(hm, .inr (5, [.ref (am 1), .ref (am 2), .ref (am 3), .ref (am 4), .ref (am 5), .ref (am 6), .ref (am 7), .ref (am 8), .int 0, .ref (am 9), .int 0, .ref (am 10), .int 0, .ref (am 11), .ref (am 12), .int 0, .int 0, .int 1, .null, .null, .int 0, .int 0, .int 0, .long 0, .int 0, .ref (am 13), .int 0, .int 0, .int 0, .ref (am 14), .ref (am 15), .ref (am 16), .ref (am 17), .int 0, .ref (am 18), .ref (am 19), .ref (am 20)])), ((am 9), .inl (k 0, 8, .inl (fun _ => 0)))] : va_W)) hP [0, 1] rfl) ((hD.sub (ws' := ([(hm, .inr (5, [.ref (am 1), .ref (am 2), .ref (am 3), .ref (am 4), .ref (am 5), .ref (am 6), .ref (am 7), .ref (am 8), .int 0, .ref (am 9), .int 0, .ref (am 10), .int 0, .ref (am 11), .ref (am 12), .int 0, .int 0, .int 1, .null, .null, .int 0, .int 0, .int 0, .long 0, .int 0, .ref (am 13), .int 0, .int 0, .int 0, .ref (am 14), .ref (am 15), .ref (am 16), .ref (am 17), .int 0, .ref (am 18), .ref (am 19), .ref (am 20)])), ((am 9), .inl (k 0, 8, .inl (fun _ => 0)))] : va_W)) [0, 1] (by decide) rfl).weaken (fun _ _ _ _ => trivial)) (m_refuse2 l D k hm am .null .null 0 _) gV_RX7_95 (by decide +kernel) rfl rfl ⟨Nat.le_of_ble_eq_true rfl, Nat.le_of_ble_eq_true rfl⟩ rfl rfl rfl rfl (Nat.le_of_ble_eq_true rfl) dX7_law_23 ⟨Nat.le_of_ble_eq_true rfl, Nat.le_of_ble_eq_true rfl⟩) (fun r_6 u_4 H locs h_5 hP hD hS => ?_)
  have h_5 : r_6 = -2 := h_5
  have hP : va_P D gx_cl [] H := hP
  have hD : va_D A [] := hD
  have eh_5 := h_5
  subst eh_5
  exact gx_retI C (u := ()) gx_nil gx_noneD hS (rfl) dX7_law_26
set_option maxHeartbeats 4000000 in
set_option maxRecDepth 100000 in
theorem m_all_pub (l : Launch) (D : va_G) (k : Nat → ClassId) (hm : Nat) (am : Nat → Nat) (av : Int32) (sz : Nat) : Met l yX7_all (.code yX7_all cX7_all 2 (some .int) :: gx_T) ({ frames := 2, cells := 0, slots := 0, locals := 46 }) (gx_Pre D k [.ref hm, .int av] ([(hm, .inr (5, [.ref (am 1), .ref (am 2), .ref (am 3), .ref (am 4), .ref (am 5), .ref (am 6), .ref (am 7), .ref (am 8), .int 0, .ref (am 9), .int 0, .ref (am 10), .int 0, .ref (am 11), .ref (am 12), .int 0, .int 0, .int 1, .null, .null, .int 0, .int 0, .int 0, .long 0, .int 0, .ref (am 13), .int 0, .int 0, .int 0, .ref (am 14), .ref (am 15), .ref (am 16), .ref (am 17), .int 0, .ref (am 18), .ref (am 19), .ref (am 20)])), ((am 9), .inl (k 0, 8, .inl (fun _ => 0)))]) sz) (gx_Qi D (fun (r : Int32) (u : Unit) => r = -2) (fun (u : Unit) => ([] : va_W)) (va_A ([(hm, .inr (5, [.ref (am 1), .ref (am 2), .ref (am 3), .ref (am 4), .ref (am 5), .ref (am 6), .ref (am 7), .ref (am 8), .int 0, .ref (am 9), .int 0, .ref (am 10), .int 0, .ref (am 11), .ref (am 12), .int 0, .int 0, .int 1, .null, .null, .int 0, .int 0, .int 0, .long 0, .int 0, .ref (am 13), .int 0, .int 0, .int 0, .ref (am 14), .ref (am 15), .ref (am 16), .ref (am 17), .int 0, .ref (am 18), .ref (am 19), .ref (am 20)])), ((am 9), .inl (k 0, 8, .inl (fun _ => 0)))]) sz)) 0 0 (va_A ([(hm, .inr (5, [.ref (am 1), .ref (am 2), .ref (am 3), .ref (am 4), .ref (am 5), .ref (am 6), .ref (am 7), .ref (am 8), .int 0, .ref (am 9), .int 0, .ref (am 10), .int 0, .ref (am 11), .ref (am 12), .int 0, .int 0, .int 1, .null, .null, .int 0, .int 0, .int 0, .long 0, .int 0, .ref (am 13), .int 0, .int 0, .int 0, .ref (am 14), .ref (am 15), .ref (am 16), .ref (am 17), .int 0, .ref (am 18), .ref (am 19), .ref (am 20)])), ((am 9), .inl (k 0, 8, .inl (fun _ => 0)))]) sz) := by
  refine gx_metE (Qc := fun A => gx_Qi D (fun (r : Int32) (u : Unit) => r = -2) (fun (u : Unit) => ([] : va_W)) A) (y := yX7_all) (cc := cX7_all) (n := 2) (ret := (some .int)) (av := [.ref hm, .int av]) (by decide) (Nat.le_of_ble_eq_true rfl) ?_
  intro p e s m below meth c A ls C hA hP hD hK hS hl
  obtain ⟨hx, hb, hr, hml, hown, hT, hlk, hin⟩ := id C
  have hown : s.vm.findClass RX7 = some m.cls := hown
  have hl : lv_has ls 2 [(0, .ref hm), (1, .int av)] := hl
  refine lv_aload_n hx hb dX7_all_0 rfl (lv_at hl 0 rfl) ?_
  refine lv_iload_n hx hb dX7_all_1 rfl (lv_at hl 1 rfl) ?_
  refine gx_pi hP hS (gx_runV (na := 1) (As := [.int av]) (rest := []) (ci := 5) C hl.1 hK (gx_subP (wc := ([(hm, .inr (5, [.ref (am 1), .ref (am 2), .ref (am 3), .ref (am 4), .ref (am 5), .ref (am 6), .ref (am 7), .ref (am 8), .int 0, .ref (am 9), .int 0, .ref (am 10), .int 0, .ref (am 11), .ref (am 12), .int 0, .int 0, .int 1, .null, .null, .int 0, .int 0, .int 0, .long 0, .int 0, .ref (am 13), .int 0, .int 0, .int 0, .ref (am 14), .ref (am 15), .ref (am 16), .ref (am 17), .int 0, .ref (am 18), .ref (am 19), .ref (am 20)]))] : va_W)) hP [0] rfl) ((hD.sub (ws' := ([(hm, .inr (5, [.ref (am 1), .ref (am 2), .ref (am 3), .ref (am 4), .ref (am 5), .ref (am 6), .ref (am 7), .ref (am 8), .int 0, .ref (am 9), .int 0, .ref (am 10), .int 0, .ref (am 11), .ref (am 12), .int 0, .int 0, .int 1, .null, .null, .int 0, .int 0, .int 0, .long 0, .int 0, .ref (am 13), .int 0, .int 0, .int 0, .ref (am 14), .ref (am 15), .ref (am 16), .ref (am 17), .int 0, .ref (am 18), .ref (am 19), .ref (am 20)]))] : va_W)) [0] (by decide) rfl).weaken (fun _ _ _ _ => trivial)) (m_isOne l D k hm am av _) gV_RX7_235 (by decide +kernel) rfl rfl ⟨Nat.le_of_ble_eq_true rfl, Nat.le_of_ble_eq_true rfl⟩ rfl rfl rfl rfl (Nat.le_of_ble_eq_true rfl) dX7_all_2 ⟨Nat.le_of_ble_eq_true rfl, Nat.le_of_ble_eq_true rfl⟩) (fun r_2 H locs c_1 hP hS => ?_)
  have c_1 : r_2 = 0 := c_1
  subst c_1
  refine lv_if_eq (tgt := 28) hx hb dX7_all_5 (by decide) (fun c_3 => ?_) (fun c_3 => absurd (by decide) c_3)
  refine lv_aload_n hx hb dX7_all_28 rfl (lv_at hl 0 rfl) ?_
  refine lv_bipush (v := (-2)) hx hb dX7_all_29 (by decide) ?_
  refine gx_ei (wc := ([(hm, .inr (5, [.ref (am 1), .ref (am 2), .ref (am 3), .ref (am 4), .ref (am 5), .ref (am 6), .ref (am 7), .ref (am 8), .int 0, .ref (am 9), .int 0, .ref (am 10), .int 0, .ref (am 11), .ref (am 12), .int 0, .int 0, .int 1, .null, .null, .int 0, .int 0, .int 0, .long 0, .int 0, .ref (am 13), .int 0, .int 0, .int 0, .ref (am 14), .ref (am 15), .ref (am 16), .ref (am 17), .int 0, .ref (am 18), .ref (am 19), .ref (am 20)])), ((am 9), .inl (k 0, 8, .inl (fun _ => 0)))] : va_W)) (wr := []) (isC := [0, 1]) (isR := []) hP hD hS hA rfl rfl (by decide) (by decide) (gx_runV (na := 1) (As := [.int (-2)]) (rest := []) (ci := 5) C hl.1 hK (gx_subP (wc := ([(hm, .inr (5, [.ref (am 1), .ref (am 2), .ref (am 3), .ref (am 4), .ref (am 5), .ref (am 6), .ref (am 7), .ref (am 8), .int 0, .ref (am 9), .int 0, .ref (am 10), .int 0, .ref (am 11), .ref (am 12), .int 0, .int 0, .int 1, .null, .null, .int 0, .int 0, .int 0, .long 0, .int 0, .ref (am 13), .int 0, .int 0, .int 0, .ref (am 14), .ref (am 15), .ref (am 16), .ref (am 17), .int 0, .ref (am 18), .ref (am 19), .ref (am 20)])), ((am 9), .inl (k 0, 8, .inl (fun _ => 0)))] : va_W)) hP [0, 1] rfl) ((hD.sub (ws' := ([(hm, .inr (5, [.ref (am 1), .ref (am 2), .ref (am 3), .ref (am 4), .ref (am 5), .ref (am 6), .ref (am 7), .ref (am 8), .int 0, .ref (am 9), .int 0, .ref (am 10), .int 0, .ref (am 11), .ref (am 12), .int 0, .int 0, .int 1, .null, .null, .int 0, .int 0, .int 0, .long 0, .int 0, .ref (am 13), .int 0, .int 0, .int 0, .ref (am 14), .ref (am 15), .ref (am 16), .ref (am 17), .int 0, .ref (am 18), .ref (am 19), .ref (am 20)])), ((am 9), .inl (k 0, 8, .inl (fun _ => 0)))] : va_W)) [0, 1] (by decide) rfl).weaken (fun _ _ _ _ => trivial)) (m_refuse2 l D k hm am .null .null 0 _) gV_RX7_95 (by decide +kernel) rfl rfl ⟨Nat.le_of_ble_eq_true rfl, Nat.le_of_ble_eq_true rfl⟩ rfl rfl rfl rfl (Nat.le_of_ble_eq_true rfl) dX7_all_31 ⟨Nat.le_of_ble_eq_true rfl, Nat.le_of_ble_eq_true rfl⟩) (fun r_6 u_4 H locs h_5 hP hD hS => ?_)
  have h_5 : r_6 = -2 := h_5
  have hP : va_P D gx_cl [] H := hP
  have hD : va_D A [] := hD
  have eh_5 := h_5
  subst eh_5
  exact gx_retI C (u := ()) gx_nil gx_noneD hS (rfl) dX7_all_34
set_option maxHeartbeats 4000000 in
set_option maxRecDepth 100000 in
theorem m_way_pub (l : Launch) (D : va_G) (k : Nat → ClassId) (hm : Nat) (am : Nat → Nat) (av : Int32) (bv : Int32) (sz : Nat) : Met l yX7_way (.code yX7_way cX7_way 7 (some .int) :: gx_T) ({ frames := 2, cells := 0, slots := 0, locals := 46 }) (gx_Pre D k [.ref hm, .int av, .int bv] ([(hm, .inr (5, [.ref (am 1), .ref (am 2), .ref (am 3), .ref (am 4), .ref (am 5), .ref (am 6), .ref (am 7), .ref (am 8), .int 0, .ref (am 9), .int 0, .ref (am 10), .int 0, .ref (am 11), .ref (am 12), .int 0, .int 0, .int 1, .null, .null, .int 0, .int 0, .int 0, .long 0, .int 0, .ref (am 13), .int 0, .int 0, .int 0, .ref (am 14), .ref (am 15), .ref (am 16), .ref (am 17), .int 0, .ref (am 18), .ref (am 19), .ref (am 20)])), ((am 9), .inl (k 0, 8, .inl (fun _ => 0)))]) sz) (gx_Qi D (fun (r : Int32) (u : Unit) => r = -2) (fun (u : Unit) => ([] : va_W)) (va_A ([(hm, .inr (5, [.ref (am 1), .ref (am 2), .ref (am 3), .ref (am 4), .ref (am 5), .ref (am 6), .ref (am 7), .ref (am 8), .int 0, .ref (am 9), .int 0, .ref (am 10), .int 0, .ref (am 11), .ref (am 12), .int 0, .int 0, .int 1, .null, .null, .int 0, .int 0, .int 0, .long 0, .int 0, .ref (am 13), .int 0, .int 0, .int 0, .ref (am 14), .ref (am 15), .ref (am 16), .ref (am 17), .int 0, .ref (am 18), .ref (am 19), .ref (am 20)])), ((am 9), .inl (k 0, 8, .inl (fun _ => 0)))]) sz)) 0 0 (va_A ([(hm, .inr (5, [.ref (am 1), .ref (am 2), .ref (am 3), .ref (am 4), .ref (am 5), .ref (am 6), .ref (am 7), .ref (am 8), .int 0, .ref (am 9), .int 0, .ref (am 10), .int 0, .ref (am 11), .ref (am 12), .int 0, .int 0, .int 1, .null, .null, .int 0, .int 0, .int 0, .long 0, .int 0, .ref (am 13), .int 0, .int 0, .int 0, .ref (am 14), .ref (am 15), .ref (am 16), .ref (am 17), .int 0, .ref (am 18), .ref (am 19), .ref (am 20)])), ((am 9), .inl (k 0, 8, .inl (fun _ => 0)))]) sz) := by
  refine gx_metE (Qc := fun A => gx_Qi D (fun (r : Int32) (u : Unit) => r = -2) (fun (u : Unit) => ([] : va_W)) A) (y := yX7_way) (cc := cX7_way) (n := 7) (ret := (some .int)) (av := [.ref hm, .int av, .int bv]) (by decide) (Nat.le_of_ble_eq_true rfl) ?_
  intro p e s m below meth c A ls C hA hP hD hK hS hl
  obtain ⟨hx, hb, hr, hml, hown, hT, hlk, hin⟩ := id C
  have hown : s.vm.findClass RX7 = some m.cls := hown
  have hl : lv_has ls 7 [(0, .ref hm), (1, .int av), (2, .int bv)] := hl
  refine lv_aload_n hx hb dX7_way_0 rfl (lv_at hl 0 rfl) ?_
  refine lv_iload_n hx hb dX7_way_1 rfl (lv_at hl 1 rfl) ?_
  refine gx_pi hP hS (gx_runV (na := 1) (As := [.int av]) (rest := []) (ci := 5) C hl.1 hK (gx_subP (wc := ([(hm, .inr (5, [.ref (am 1), .ref (am 2), .ref (am 3), .ref (am 4), .ref (am 5), .ref (am 6), .ref (am 7), .ref (am 8), .int 0, .ref (am 9), .int 0, .ref (am 10), .int 0, .ref (am 11), .ref (am 12), .int 0, .int 0, .int 1, .null, .null, .int 0, .int 0, .int 0, .long 0, .int 0, .ref (am 13), .int 0, .int 0, .int 0, .ref (am 14), .ref (am 15), .ref (am 16), .ref (am 17), .int 0, .ref (am 18), .ref (am 19), .ref (am 20)]))] : va_W)) hP [0] rfl) ((hD.sub (ws' := ([(hm, .inr (5, [.ref (am 1), .ref (am 2), .ref (am 3), .ref (am 4), .ref (am 5), .ref (am 6), .ref (am 7), .ref (am 8), .int 0, .ref (am 9), .int 0, .ref (am 10), .int 0, .ref (am 11), .ref (am 12), .int 0, .int 0, .int 1, .null, .null, .int 0, .int 0, .int 0, .long 0, .int 0, .ref (am 13), .int 0, .int 0, .int 0, .ref (am 14), .ref (am 15), .ref (am 16), .ref (am 17), .int 0, .ref (am 18), .ref (am 19), .ref (am 20)]))] : va_W)) [0] (by decide) rfl).weaken (fun _ _ _ _ => trivial)) (m_isOne l D k hm am av _) gV_RX7_235 (by decide +kernel) rfl rfl ⟨Nat.le_of_ble_eq_true rfl, Nat.le_of_ble_eq_true rfl⟩ rfl rfl rfl rfl (Nat.le_of_ble_eq_true rfl) dX7_way_2 ⟨Nat.le_of_ble_eq_true rfl, Nat.le_of_ble_eq_true rfl⟩) (fun r_2 H locs c_1 hP hS => ?_)
  have c_1 : r_2 = 0 := c_1
  subst c_1
  refine lv_if_eq (tgt := 28) hx hb dX7_way_5 (by decide) (fun c_3 => ?_) (fun c_3 => absurd (by decide) c_3)
  refine lv_aload_n hx hb dX7_way_28 rfl (lv_at hl 0 rfl) ?_
  refine lv_bipush (v := (-2)) hx hb dX7_way_29 (by decide) ?_
  refine gx_ei (wc := ([(hm, .inr (5, [.ref (am 1), .ref (am 2), .ref (am 3), .ref (am 4), .ref (am 5), .ref (am 6), .ref (am 7), .ref (am 8), .int 0, .ref (am 9), .int 0, .ref (am 10), .int 0, .ref (am 11), .ref (am 12), .int 0, .int 0, .int 1, .null, .null, .int 0, .int 0, .int 0, .long 0, .int 0, .ref (am 13), .int 0, .int 0, .int 0, .ref (am 14), .ref (am 15), .ref (am 16), .ref (am 17), .int 0, .ref (am 18), .ref (am 19), .ref (am 20)])), ((am 9), .inl (k 0, 8, .inl (fun _ => 0)))] : va_W)) (wr := []) (isC := [0, 1]) (isR := []) hP hD hS hA rfl rfl (by decide) (by decide) (gx_runV (na := 1) (As := [.int (-2)]) (rest := []) (ci := 5) C hl.1 hK (gx_subP (wc := ([(hm, .inr (5, [.ref (am 1), .ref (am 2), .ref (am 3), .ref (am 4), .ref (am 5), .ref (am 6), .ref (am 7), .ref (am 8), .int 0, .ref (am 9), .int 0, .ref (am 10), .int 0, .ref (am 11), .ref (am 12), .int 0, .int 0, .int 1, .null, .null, .int 0, .int 0, .int 0, .long 0, .int 0, .ref (am 13), .int 0, .int 0, .int 0, .ref (am 14), .ref (am 15), .ref (am 16), .ref (am 17), .int 0, .ref (am 18), .ref (am 19), .ref (am 20)])), ((am 9), .inl (k 0, 8, .inl (fun _ => 0)))] : va_W)) hP [0, 1] rfl) ((hD.sub (ws' := ([(hm, .inr (5, [.ref (am 1), .ref (am 2), .ref (am 3), .ref (am 4), .ref (am 5), .ref (am 6), .ref (am 7), .ref (am 8), .int 0, .ref (am 9), .int 0, .ref (am 10), .int 0, .ref (am 11), .ref (am 12), .int 0, .int 0, .int 1, .null, .null, .int 0, .int 0, .int 0, .long 0, .int 0, .ref (am 13), .int 0, .int 0, .int 0, .ref (am 14), .ref (am 15), .ref (am 16), .ref (am 17), .int 0, .ref (am 18), .ref (am 19), .ref (am 20)])), ((am 9), .inl (k 0, 8, .inl (fun _ => 0)))] : va_W)) [0, 1] (by decide) rfl).weaken (fun _ _ _ _ => trivial)) (m_refuse2 l D k hm am .null .null 0 _) gV_RX7_95 (by decide +kernel) rfl rfl ⟨Nat.le_of_ble_eq_true rfl, Nat.le_of_ble_eq_true rfl⟩ rfl rfl rfl rfl (Nat.le_of_ble_eq_true rfl) dX7_way_31 ⟨Nat.le_of_ble_eq_true rfl, Nat.le_of_ble_eq_true rfl⟩) (fun r_6 u_4 H locs h_5 hP hD hS => ?_)
  have h_5 : r_6 = -2 := h_5
  have hP : va_P D gx_cl [] H := hP
  have hD : va_D A [] := hD
  have eh_5 := h_5
  subst eh_5
  exact gx_retI C (u := ()) gx_nil gx_noneD hS (rfl) dX7_way_34
set_option maxHeartbeats 4000000 in
set_option maxRecDepth 100000 in
theorem m_lacks_pub (l : Launch) (D : va_G) (k : Nat → ClassId) (hm : Nat) (am : Nat → Nat) (av : Int32) (sz : Nat) : Met l yX7_lacks (.code yX7_lacks cX7_lacks 10 (some .int) :: gx_T) ({ frames := 2, cells := 0, slots := 0, locals := 46 }) (gx_Pre D k [.ref hm, .int av] ([(hm, .inr (5, [.ref (am 1), .ref (am 2), .ref (am 3), .ref (am 4), .ref (am 5), .ref (am 6), .ref (am 7), .ref (am 8), .int 0, .ref (am 9), .int 0, .ref (am 10), .int 0, .ref (am 11), .ref (am 12), .int 0, .int 0, .int 1, .null, .null, .int 0, .int 0, .int 0, .long 0, .int 0, .ref (am 13), .int 0, .int 0, .int 0, .ref (am 14), .ref (am 15), .ref (am 16), .ref (am 17), .int 0, .ref (am 18), .ref (am 19), .ref (am 20)])), ((am 9), .inl (k 0, 8, .inl (fun _ => 0)))]) sz) (gx_Qi D (fun (r : Int32) (u : Unit) => r = -2) (fun (u : Unit) => ([] : va_W)) (va_A ([(hm, .inr (5, [.ref (am 1), .ref (am 2), .ref (am 3), .ref (am 4), .ref (am 5), .ref (am 6), .ref (am 7), .ref (am 8), .int 0, .ref (am 9), .int 0, .ref (am 10), .int 0, .ref (am 11), .ref (am 12), .int 0, .int 0, .int 1, .null, .null, .int 0, .int 0, .int 0, .long 0, .int 0, .ref (am 13), .int 0, .int 0, .int 0, .ref (am 14), .ref (am 15), .ref (am 16), .ref (am 17), .int 0, .ref (am 18), .ref (am 19), .ref (am 20)])), ((am 9), .inl (k 0, 8, .inl (fun _ => 0)))]) sz)) 0 0 (va_A ([(hm, .inr (5, [.ref (am 1), .ref (am 2), .ref (am 3), .ref (am 4), .ref (am 5), .ref (am 6), .ref (am 7), .ref (am 8), .int 0, .ref (am 9), .int 0, .ref (am 10), .int 0, .ref (am 11), .ref (am 12), .int 0, .int 0, .int 1, .null, .null, .int 0, .int 0, .int 0, .long 0, .int 0, .ref (am 13), .int 0, .int 0, .int 0, .ref (am 14), .ref (am 15), .ref (am 16), .ref (am 17), .int 0, .ref (am 18), .ref (am 19), .ref (am 20)])), ((am 9), .inl (k 0, 8, .inl (fun _ => 0)))]) sz) := by
  refine gx_metE (Qc := fun A => gx_Qi D (fun (r : Int32) (u : Unit) => r = -2) (fun (u : Unit) => ([] : va_W)) A) (y := yX7_lacks) (cc := cX7_lacks) (n := 10) (ret := (some .int)) (av := [.ref hm, .int av]) (by decide) (Nat.le_of_ble_eq_true rfl) ?_
  intro p e s m below meth c A ls C hA hP hD hK hS hl
  obtain ⟨hx, hb, hr, hml, hown, hT, hlk, hin⟩ := id C
  have hown : s.vm.findClass RX7 = some m.cls := hown
  have hl : lv_has ls 10 [(0, .ref hm), (1, .int av)] := hl
  refine lv_aload_n hx hb dX7_lacks_0 rfl (lv_at hl 0 rfl) ?_
  refine lv_iload_n hx hb dX7_lacks_1 rfl (lv_at hl 1 rfl) ?_
  refine gx_pi hP hS (gx_runV (na := 1) (As := [.int av]) (rest := []) (ci := 5) C hl.1 hK (gx_subP (wc := ([(hm, .inr (5, [.ref (am 1), .ref (am 2), .ref (am 3), .ref (am 4), .ref (am 5), .ref (am 6), .ref (am 7), .ref (am 8), .int 0, .ref (am 9), .int 0, .ref (am 10), .int 0, .ref (am 11), .ref (am 12), .int 0, .int 0, .int 1, .null, .null, .int 0, .int 0, .int 0, .long 0, .int 0, .ref (am 13), .int 0, .int 0, .int 0, .ref (am 14), .ref (am 15), .ref (am 16), .ref (am 17), .int 0, .ref (am 18), .ref (am 19), .ref (am 20)]))] : va_W)) hP [0] rfl) ((hD.sub (ws' := ([(hm, .inr (5, [.ref (am 1), .ref (am 2), .ref (am 3), .ref (am 4), .ref (am 5), .ref (am 6), .ref (am 7), .ref (am 8), .int 0, .ref (am 9), .int 0, .ref (am 10), .int 0, .ref (am 11), .ref (am 12), .int 0, .int 0, .int 1, .null, .null, .int 0, .int 0, .int 0, .long 0, .int 0, .ref (am 13), .int 0, .int 0, .int 0, .ref (am 14), .ref (am 15), .ref (am 16), .ref (am 17), .int 0, .ref (am 18), .ref (am 19), .ref (am 20)]))] : va_W)) [0] (by decide) rfl).weaken (fun _ _ _ _ => trivial)) (m_isOne l D k hm am av _) gV_RX7_235 (by decide +kernel) rfl rfl ⟨Nat.le_of_ble_eq_true rfl, Nat.le_of_ble_eq_true rfl⟩ rfl rfl rfl rfl (Nat.le_of_ble_eq_true rfl) dX7_lacks_2 ⟨Nat.le_of_ble_eq_true rfl, Nat.le_of_ble_eq_true rfl⟩) (fun r_2 H locs c_1 hP hS => ?_)
  have c_1 : r_2 = 0 := c_1
  subst c_1
  refine lv_if_ne (tgt := 15) hx hb dX7_lacks_5 (by decide) (fun c_3 => absurd (by decide) c_3) (fun c_3 => ?_)
  refine lv_aload_n hx hb dX7_lacks_8 rfl (lv_at hl 0 rfl) ?_
  refine lv_bipush (v := (-2)) hx hb dX7_lacks_9 (by decide) ?_
  refine gx_ei (wc := ([(hm, .inr (5, [.ref (am 1), .ref (am 2), .ref (am 3), .ref (am 4), .ref (am 5), .ref (am 6), .ref (am 7), .ref (am 8), .int 0, .ref (am 9), .int 0, .ref (am 10), .int 0, .ref (am 11), .ref (am 12), .int 0, .int 0, .int 1, .null, .null, .int 0, .int 0, .int 0, .long 0, .int 0, .ref (am 13), .int 0, .int 0, .int 0, .ref (am 14), .ref (am 15), .ref (am 16), .ref (am 17), .int 0, .ref (am 18), .ref (am 19), .ref (am 20)])), ((am 9), .inl (k 0, 8, .inl (fun _ => 0)))] : va_W)) (wr := []) (isC := [0, 1]) (isR := []) hP hD hS hA rfl rfl (by decide) (by decide) (gx_runV (na := 1) (As := [.int (-2)]) (rest := []) (ci := 5) C hl.1 hK (gx_subP (wc := ([(hm, .inr (5, [.ref (am 1), .ref (am 2), .ref (am 3), .ref (am 4), .ref (am 5), .ref (am 6), .ref (am 7), .ref (am 8), .int 0, .ref (am 9), .int 0, .ref (am 10), .int 0, .ref (am 11), .ref (am 12), .int 0, .int 0, .int 1, .null, .null, .int 0, .int 0, .int 0, .long 0, .int 0, .ref (am 13), .int 0, .int 0, .int 0, .ref (am 14), .ref (am 15), .ref (am 16), .ref (am 17), .int 0, .ref (am 18), .ref (am 19), .ref (am 20)])), ((am 9), .inl (k 0, 8, .inl (fun _ => 0)))] : va_W)) hP [0, 1] rfl) ((hD.sub (ws' := ([(hm, .inr (5, [.ref (am 1), .ref (am 2), .ref (am 3), .ref (am 4), .ref (am 5), .ref (am 6), .ref (am 7), .ref (am 8), .int 0, .ref (am 9), .int 0, .ref (am 10), .int 0, .ref (am 11), .ref (am 12), .int 0, .int 0, .int 1, .null, .null, .int 0, .int 0, .int 0, .long 0, .int 0, .ref (am 13), .int 0, .int 0, .int 0, .ref (am 14), .ref (am 15), .ref (am 16), .ref (am 17), .int 0, .ref (am 18), .ref (am 19), .ref (am 20)])), ((am 9), .inl (k 0, 8, .inl (fun _ => 0)))] : va_W)) [0, 1] (by decide) rfl).weaken (fun _ _ _ _ => trivial)) (m_refuse2 l D k hm am .null .null 0 _) gV_RX7_95 (by decide +kernel) rfl rfl ⟨Nat.le_of_ble_eq_true rfl, Nat.le_of_ble_eq_true rfl⟩ rfl rfl rfl rfl (Nat.le_of_ble_eq_true rfl) dX7_lacks_11 ⟨Nat.le_of_ble_eq_true rfl, Nat.le_of_ble_eq_true rfl⟩) (fun r_6 u_4 H locs h_5 hP hD hS => ?_)
  have h_5 : r_6 = -2 := h_5
  have hP : va_P D gx_cl [] H := hP
  have hD : va_D A [] := hD
  have eh_5 := h_5
  subst eh_5
  exact gx_retI C (u := ()) gx_nil gx_noneD hS (rfl) dX7_lacks_14
set_option maxHeartbeats 4000000 in
set_option maxRecDepth 100000 in
theorem m_longest_pub (l : Launch) (D : va_G) (k : Nat → ClassId) (hm : Nat) (am : Nat → Nat) (av : Int32) (bv : Int32) (sz : Nat) : Met l yX7_longest (.code yX7_longest cX7_longest 11 (some .int) :: gx_T) ({ frames := 2, cells := 0, slots := 0, locals := 46 }) (gx_Pre D k [.ref hm, .int av, .int bv] ([(hm, .inr (5, [.ref (am 1), .ref (am 2), .ref (am 3), .ref (am 4), .ref (am 5), .ref (am 6), .ref (am 7), .ref (am 8), .int 0, .ref (am 9), .int 0, .ref (am 10), .int 0, .ref (am 11), .ref (am 12), .int 0, .int 0, .int 1, .null, .null, .int 0, .int 0, .int 0, .long 0, .int 0, .ref (am 13), .int 0, .int 0, .int 0, .ref (am 14), .ref (am 15), .ref (am 16), .ref (am 17), .int 0, .ref (am 18), .ref (am 19), .ref (am 20)])), ((am 9), .inl (k 0, 8, .inl (fun _ => 0)))]) sz) (gx_Qi D (fun (r : Int32) (u : Unit) => r = -2) (fun (u : Unit) => ([] : va_W)) (va_A ([(hm, .inr (5, [.ref (am 1), .ref (am 2), .ref (am 3), .ref (am 4), .ref (am 5), .ref (am 6), .ref (am 7), .ref (am 8), .int 0, .ref (am 9), .int 0, .ref (am 10), .int 0, .ref (am 11), .ref (am 12), .int 0, .int 0, .int 1, .null, .null, .int 0, .int 0, .int 0, .long 0, .int 0, .ref (am 13), .int 0, .int 0, .int 0, .ref (am 14), .ref (am 15), .ref (am 16), .ref (am 17), .int 0, .ref (am 18), .ref (am 19), .ref (am 20)])), ((am 9), .inl (k 0, 8, .inl (fun _ => 0)))]) sz)) 0 0 (va_A ([(hm, .inr (5, [.ref (am 1), .ref (am 2), .ref (am 3), .ref (am 4), .ref (am 5), .ref (am 6), .ref (am 7), .ref (am 8), .int 0, .ref (am 9), .int 0, .ref (am 10), .int 0, .ref (am 11), .ref (am 12), .int 0, .int 0, .int 1, .null, .null, .int 0, .int 0, .int 0, .long 0, .int 0, .ref (am 13), .int 0, .int 0, .int 0, .ref (am 14), .ref (am 15), .ref (am 16), .ref (am 17), .int 0, .ref (am 18), .ref (am 19), .ref (am 20)])), ((am 9), .inl (k 0, 8, .inl (fun _ => 0)))]) sz) := by
  refine gx_metE (Qc := fun A => gx_Qi D (fun (r : Int32) (u : Unit) => r = -2) (fun (u : Unit) => ([] : va_W)) A) (y := yX7_longest) (cc := cX7_longest) (n := 11) (ret := (some .int)) (av := [.ref hm, .int av, .int bv]) (by decide) (Nat.le_of_ble_eq_true rfl) ?_
  intro p e s m below meth c A ls C hA hP hD hK hS hl
  obtain ⟨hx, hb, hr, hml, hown, hT, hlk, hin⟩ := id C
  have hown : s.vm.findClass RX7 = some m.cls := hown
  have hl : lv_has ls 11 [(0, .ref hm), (1, .int av), (2, .int bv)] := hl
  refine lv_aload_n hx hb dX7_longest_0 rfl (lv_at hl 0 rfl) ?_
  refine lv_iload_n hx hb dX7_longest_1 rfl (lv_at hl 1 rfl) ?_
  refine gx_pi hP hS (gx_runV (na := 1) (As := [.int av]) (rest := []) (ci := 5) C hl.1 hK (gx_subP (wc := ([(hm, .inr (5, [.ref (am 1), .ref (am 2), .ref (am 3), .ref (am 4), .ref (am 5), .ref (am 6), .ref (am 7), .ref (am 8), .int 0, .ref (am 9), .int 0, .ref (am 10), .int 0, .ref (am 11), .ref (am 12), .int 0, .int 0, .int 1, .null, .null, .int 0, .int 0, .int 0, .long 0, .int 0, .ref (am 13), .int 0, .int 0, .int 0, .ref (am 14), .ref (am 15), .ref (am 16), .ref (am 17), .int 0, .ref (am 18), .ref (am 19), .ref (am 20)]))] : va_W)) hP [0] rfl) ((hD.sub (ws' := ([(hm, .inr (5, [.ref (am 1), .ref (am 2), .ref (am 3), .ref (am 4), .ref (am 5), .ref (am 6), .ref (am 7), .ref (am 8), .int 0, .ref (am 9), .int 0, .ref (am 10), .int 0, .ref (am 11), .ref (am 12), .int 0, .int 0, .int 1, .null, .null, .int 0, .int 0, .int 0, .long 0, .int 0, .ref (am 13), .int 0, .int 0, .int 0, .ref (am 14), .ref (am 15), .ref (am 16), .ref (am 17), .int 0, .ref (am 18), .ref (am 19), .ref (am 20)]))] : va_W)) [0] (by decide) rfl).weaken (fun _ _ _ _ => trivial)) (m_isOne l D k hm am av _) gV_RX7_235 (by decide +kernel) rfl rfl ⟨Nat.le_of_ble_eq_true rfl, Nat.le_of_ble_eq_true rfl⟩ rfl rfl rfl rfl (Nat.le_of_ble_eq_true rfl) dX7_longest_2 ⟨Nat.le_of_ble_eq_true rfl, Nat.le_of_ble_eq_true rfl⟩) (fun r_2 H locs c_1 hP hS => ?_)
  have c_1 : r_2 = 0 := c_1
  subst c_1
  refine lv_if_eq (tgt := 20) hx hb dX7_longest_5 (by decide) (fun c_3 => ?_) (fun c_3 => absurd (by decide) c_3)
  refine lv_aload_n hx hb dX7_longest_20 rfl (lv_at hl 0 rfl) ?_
  refine lv_bipush (v := (-2)) hx hb dX7_longest_21 (by decide) ?_
  refine gx_ei (wc := ([(hm, .inr (5, [.ref (am 1), .ref (am 2), .ref (am 3), .ref (am 4), .ref (am 5), .ref (am 6), .ref (am 7), .ref (am 8), .int 0, .ref (am 9), .int 0, .ref (am 10), .int 0, .ref (am 11), .ref (am 12), .int 0, .int 0, .int 1, .null, .null, .int 0, .int 0, .int 0, .long 0, .int 0, .ref (am 13), .int 0, .int 0, .int 0, .ref (am 14), .ref (am 15), .ref (am 16), .ref (am 17), .int 0, .ref (am 18), .ref (am 19), .ref (am 20)])), ((am 9), .inl (k 0, 8, .inl (fun _ => 0)))] : va_W)) (wr := []) (isC := [0, 1]) (isR := []) hP hD hS hA rfl rfl (by decide) (by decide) (gx_runV (na := 1) (As := [.int (-2)]) (rest := []) (ci := 5) C hl.1 hK (gx_subP (wc := ([(hm, .inr (5, [.ref (am 1), .ref (am 2), .ref (am 3), .ref (am 4), .ref (am 5), .ref (am 6), .ref (am 7), .ref (am 8), .int 0, .ref (am 9), .int 0, .ref (am 10), .int 0, .ref (am 11), .ref (am 12), .int 0, .int 0, .int 1, .null, .null, .int 0, .int 0, .int 0, .long 0, .int 0, .ref (am 13), .int 0, .int 0, .int 0, .ref (am 14), .ref (am 15), .ref (am 16), .ref (am 17), .int 0, .ref (am 18), .ref (am 19), .ref (am 20)])), ((am 9), .inl (k 0, 8, .inl (fun _ => 0)))] : va_W)) hP [0, 1] rfl) ((hD.sub (ws' := ([(hm, .inr (5, [.ref (am 1), .ref (am 2), .ref (am 3), .ref (am 4), .ref (am 5), .ref (am 6), .ref (am 7), .ref (am 8), .int 0, .ref (am 9), .int 0, .ref (am 10), .int 0, .ref (am 11), .ref (am 12), .int 0, .int 0, .int 1, .null, .null, .int 0, .int 0, .int 0, .long 0, .int 0, .ref (am 13), .int 0, .int 0, .int 0, .ref (am 14), .ref (am 15), .ref (am 16), .ref (am 17), .int 0, .ref (am 18), .ref (am 19), .ref (am 20)])), ((am 9), .inl (k 0, 8, .inl (fun _ => 0)))] : va_W)) [0, 1] (by decide) rfl).weaken (fun _ _ _ _ => trivial)) (m_refuse2 l D k hm am .null .null 0 _) gV_RX7_95 (by decide +kernel) rfl rfl ⟨Nat.le_of_ble_eq_true rfl, Nat.le_of_ble_eq_true rfl⟩ rfl rfl rfl rfl (Nat.le_of_ble_eq_true rfl) dX7_longest_23 ⟨Nat.le_of_ble_eq_true rfl, Nat.le_of_ble_eq_true rfl⟩) (fun r_6 u_4 H locs h_5 hP hD hS => ?_)
  have h_5 : r_6 = -2 := h_5
  have hP : va_P D gx_cl [] H := hP
  have hD : va_D A [] := hD
  have eh_5 := h_5
  subst eh_5
  exact gx_retI C (u := ()) gx_nil gx_noneD hS (rfl) dX7_longest_26
set_option maxHeartbeats 4000000 in
set_option maxRecDepth 100000 in
theorem m_areTwo (l : Launch) (D : va_G) (k : Nat → ClassId) (hm : Nat) (am : Nat → Nat) (av : Int32) (bv : Int32) (cv : Int32) (sz : Nat) : Met l yX7_areTwo (.code yX7_areTwo cX7_areTwo 4 (some .boolean) :: gx_T) ({ frames := 2, cells := 0, slots := 0, locals := 46 }) (gx_Pre D k [.ref hm, .int av, .int bv, .int cv] ([(hm, .inr (5, [.ref (am 1), .ref (am 2), .ref (am 3), .ref (am 4), .ref (am 5), .ref (am 6), .ref (am 7), .ref (am 8), .int 0, .ref (am 9), .int 0, .ref (am 10), .int 0, .ref (am 11), .ref (am 12), .int 0, .int 0, .int 1, .null, .null, .int 0, .int 0, .int 0, .long 0, .int 0, .ref (am 13), .int 0, .int 0, .int 0, .ref (am 14), .ref (am 15), .ref (am 16), .ref (am 17), .int 0, .ref (am 18), .ref (am 19), .ref (am 20)]))]) sz) (gx_Pi (fun r => r = 0)) 0 0 gx_No := by
  refine gx_metP (y := yX7_areTwo) (cc := cX7_areTwo) (n := 4) (ret := (some .boolean)) (av := [.ref hm, .int av, .int bv, .int cv]) (by decide) (Nat.le_of_ble_eq_true rfl) ?_
  intro p e s m below meth c ls C hP hD hK hS hl
  obtain ⟨hx, hb, hr, hml, hown, hT, hlk, hin⟩ := id C
  have hown : s.vm.findClass RX7 = some m.cls := hown
  have hl : lv_has ls 4 [(0, .ref hm), (1, .int av), (2, .int bv), (3, .int cv)] := hl
  refine lv_aload_n hx hb dX7_areTwo_0 rfl (lv_at hl 0 rfl) ?_
  refine lv_iload_n hx hb dX7_areTwo_1 rfl (lv_at hl 1 rfl) ?_
  refine gx_pi hP hS (gx_runV (na := 1) (As := [.int av]) (rest := []) (ci := 5) C hl.1 hK (gx_subP (wc := ([(hm, .inr (5, [.ref (am 1), .ref (am 2), .ref (am 3), .ref (am 4), .ref (am 5), .ref (am 6), .ref (am 7), .ref (am 8), .int 0, .ref (am 9), .int 0, .ref (am 10), .int 0, .ref (am 11), .ref (am 12), .int 0, .int 0, .int 1, .null, .null, .int 0, .int 0, .int 0, .long 0, .int 0, .ref (am 13), .int 0, .int 0, .int 0, .ref (am 14), .ref (am 15), .ref (am 16), .ref (am 17), .int 0, .ref (am 18), .ref (am 19), .ref (am 20)]))] : va_W)) hP [0] rfl) ((hD.sub (ws' := ([(hm, .inr (5, [.ref (am 1), .ref (am 2), .ref (am 3), .ref (am 4), .ref (am 5), .ref (am 6), .ref (am 7), .ref (am 8), .int 0, .ref (am 9), .int 0, .ref (am 10), .int 0, .ref (am 11), .ref (am 12), .int 0, .int 0, .int 1, .null, .null, .int 0, .int 0, .int 0, .long 0, .int 0, .ref (am 13), .int 0, .int 0, .int 0, .ref (am 14), .ref (am 15), .ref (am 16), .ref (am 17), .int 0, .ref (am 18), .ref (am 19), .ref (am 20)]))] : va_W)) [0] (by decide) rfl).weaken (fun _ _ _ _ => trivial)) (m_isOne l D k hm am av _) gV_RX7_235 (by decide +kernel) rfl rfl ⟨Nat.le_of_ble_eq_true rfl, Nat.le_of_ble_eq_true rfl⟩ rfl rfl rfl rfl (Nat.le_of_ble_eq_true rfl) dX7_areTwo_2 ⟨Nat.le_of_ble_eq_true rfl, Nat.le_of_ble_eq_true rfl⟩) (fun r_2 H locs c_1 hP hS => ?_)
  have c_1 : r_2 = 0 := c_1
  subst c_1
  refine lv_if_eq (tgt := 33) hx hb dX7_areTwo_5 (by decide) (fun c_3 => ?_) (fun c_3 => absurd (by decide) c_3)
  refine lv_iconst (v := 0) hx hb dX7_areTwo_33 (by decide) ?_
  exact gx_retPZ C hS rfl (rfl) dX7_areTwo_34
set_option maxHeartbeats 4000000 in
set_option maxRecDepth 100000 in
theorem m_errands_pub (l : Launch) (D : va_G) (k : Nat → ClassId) (hm : Nat) (am : Nat → Nat) (av : Int32) (bv : Int32) (cv : Int32) (sz : Nat) : Met l yX7_errands (.code yX7_errands cX7_errands 4 (some .int) :: gx_T) ({ frames := 3, cells := 0, slots := 0, locals := 69 }) (gx_Pre D k [.ref hm, .int av, .int bv, .int cv] ([(hm, .inr (5, [.ref (am 1), .ref (am 2), .ref (am 3), .ref (am 4), .ref (am 5), .ref (am 6), .ref (am 7), .ref (am 8), .int 0, .ref (am 9), .int 0, .ref (am 10), .int 0, .ref (am 11), .ref (am 12), .int 0, .int 0, .int 1, .null, .null, .int 0, .int 0, .int 0, .long 0, .int 0, .ref (am 13), .int 0, .int 0, .int 0, .ref (am 14), .ref (am 15), .ref (am 16), .ref (am 17), .int 0, .ref (am 18), .ref (am 19), .ref (am 20)])), ((am 9), .inl (k 0, 8, .inl (fun _ => 0)))]) sz) (gx_Qi D (fun (r : Int32) (u : Unit) => r = -2) (fun (u : Unit) => ([] : va_W)) (va_A ([(hm, .inr (5, [.ref (am 1), .ref (am 2), .ref (am 3), .ref (am 4), .ref (am 5), .ref (am 6), .ref (am 7), .ref (am 8), .int 0, .ref (am 9), .int 0, .ref (am 10), .int 0, .ref (am 11), .ref (am 12), .int 0, .int 0, .int 1, .null, .null, .int 0, .int 0, .int 0, .long 0, .int 0, .ref (am 13), .int 0, .int 0, .int 0, .ref (am 14), .ref (am 15), .ref (am 16), .ref (am 17), .int 0, .ref (am 18), .ref (am 19), .ref (am 20)])), ((am 9), .inl (k 0, 8, .inl (fun _ => 0)))]) sz)) 0 0 (va_A ([(hm, .inr (5, [.ref (am 1), .ref (am 2), .ref (am 3), .ref (am 4), .ref (am 5), .ref (am 6), .ref (am 7), .ref (am 8), .int 0, .ref (am 9), .int 0, .ref (am 10), .int 0, .ref (am 11), .ref (am 12), .int 0, .int 0, .int 1, .null, .null, .int 0, .int 0, .int 0, .long 0, .int 0, .ref (am 13), .int 0, .int 0, .int 0, .ref (am 14), .ref (am 15), .ref (am 16), .ref (am 17), .int 0, .ref (am 18), .ref (am 19), .ref (am 20)])), ((am 9), .inl (k 0, 8, .inl (fun _ => 0)))]) sz) := by
  refine gx_metE (Qc := fun A => gx_Qi D (fun (r : Int32) (u : Unit) => r = -2) (fun (u : Unit) => ([] : va_W)) A) (y := yX7_errands) (cc := cX7_errands) (n := 4) (ret := (some .int)) (av := [.ref hm, .int av, .int bv, .int cv]) (by decide) (Nat.le_of_ble_eq_true rfl) ?_
  intro p e s m below meth c A ls C hA hP hD hK hS hl
  obtain ⟨hx, hb, hr, hml, hown, hT, hlk, hin⟩ := id C
  have hown : s.vm.findClass RX7 = some m.cls := hown
  have hl : lv_has ls 4 [(0, .ref hm), (1, .int av), (2, .int bv), (3, .int cv)] := hl
  refine lv_aload_n hx hb dX7_errands_0 rfl (lv_at hl 0 rfl) ?_
  refine lv_iload_n hx hb dX7_errands_1 rfl (lv_at hl 1 rfl) ?_
  refine lv_iload_n hx hb dX7_errands_2 rfl (lv_at hl 2 rfl) ?_
  refine lv_iload_n hx hb dX7_errands_3 rfl (lv_at hl 3 rfl) ?_
  refine gx_pi hP hS (gx_runV (na := 3) (As := [.int av, .int bv, .int cv]) (rest := []) (ci := 5) C hl.1 hK (gx_subP (wc := ([(hm, .inr (5, [.ref (am 1), .ref (am 2), .ref (am 3), .ref (am 4), .ref (am 5), .ref (am 6), .ref (am 7), .ref (am 8), .int 0, .ref (am 9), .int 0, .ref (am 10), .int 0, .ref (am 11), .ref (am 12), .int 0, .int 0, .int 1, .null, .null, .int 0, .int 0, .int 0, .long 0, .int 0, .ref (am 13), .int 0, .int 0, .int 0, .ref (am 14), .ref (am 15), .ref (am 16), .ref (am 17), .int 0, .ref (am 18), .ref (am 19), .ref (am 20)]))] : va_W)) hP [0] rfl) ((hD.sub (ws' := ([(hm, .inr (5, [.ref (am 1), .ref (am 2), .ref (am 3), .ref (am 4), .ref (am 5), .ref (am 6), .ref (am 7), .ref (am 8), .int 0, .ref (am 9), .int 0, .ref (am 10), .int 0, .ref (am 11), .ref (am 12), .int 0, .int 0, .int 1, .null, .null, .int 0, .int 0, .int 0, .long 0, .int 0, .ref (am 13), .int 0, .int 0, .int 0, .ref (am 14), .ref (am 15), .ref (am 16), .ref (am 17), .int 0, .ref (am 18), .ref (am 19), .ref (am 20)]))] : va_W)) [0] (by decide) rfl).weaken (fun _ _ _ _ => trivial)) (m_areTwo l D k hm am av bv cv _) gV_RX7_329 (by decide +kernel) rfl rfl ⟨Nat.le_of_ble_eq_true rfl, Nat.le_of_ble_eq_true rfl⟩ rfl rfl rfl rfl (Nat.le_of_ble_eq_true rfl) dX7_errands_4 ⟨Nat.le_of_ble_eq_true rfl, Nat.le_of_ble_eq_true rfl⟩) (fun r_2 H locs c_1 hP hS => ?_)
  have c_1 : r_2 = 0 := c_1
  subst c_1
  refine lv_if_eq (tgt := 24) hx hb dX7_errands_7 (by decide) (fun c_3 => ?_) (fun c_3 => absurd (by decide) c_3)
  refine lv_aload_n hx hb dX7_errands_24 rfl (lv_at hl 0 rfl) ?_
  refine lv_bipush (v := (-2)) hx hb dX7_errands_25 (by decide) ?_
  refine gx_ei (wc := ([(hm, .inr (5, [.ref (am 1), .ref (am 2), .ref (am 3), .ref (am 4), .ref (am 5), .ref (am 6), .ref (am 7), .ref (am 8), .int 0, .ref (am 9), .int 0, .ref (am 10), .int 0, .ref (am 11), .ref (am 12), .int 0, .int 0, .int 1, .null, .null, .int 0, .int 0, .int 0, .long 0, .int 0, .ref (am 13), .int 0, .int 0, .int 0, .ref (am 14), .ref (am 15), .ref (am 16), .ref (am 17), .int 0, .ref (am 18), .ref (am 19), .ref (am 20)])), ((am 9), .inl (k 0, 8, .inl (fun _ => 0)))] : va_W)) (wr := []) (isC := [0, 1]) (isR := []) hP hD hS hA rfl rfl (by decide) (by decide) (gx_runV (na := 1) (As := [.int (-2)]) (rest := []) (ci := 5) C hl.1 hK (gx_subP (wc := ([(hm, .inr (5, [.ref (am 1), .ref (am 2), .ref (am 3), .ref (am 4), .ref (am 5), .ref (am 6), .ref (am 7), .ref (am 8), .int 0, .ref (am 9), .int 0, .ref (am 10), .int 0, .ref (am 11), .ref (am 12), .int 0, .int 0, .int 1, .null, .null, .int 0, .int 0, .int 0, .long 0, .int 0, .ref (am 13), .int 0, .int 0, .int 0, .ref (am 14), .ref (am 15), .ref (am 16), .ref (am 17), .int 0, .ref (am 18), .ref (am 19), .ref (am 20)])), ((am 9), .inl (k 0, 8, .inl (fun _ => 0)))] : va_W)) hP [0, 1] rfl) ((hD.sub (ws' := ([(hm, .inr (5, [.ref (am 1), .ref (am 2), .ref (am 3), .ref (am 4), .ref (am 5), .ref (am 6), .ref (am 7), .ref (am 8), .int 0, .ref (am 9), .int 0, .ref (am 10), .int 0, .ref (am 11), .ref (am 12), .int 0, .int 0, .int 1, .null, .null, .int 0, .int 0, .int 0, .long 0, .int 0, .ref (am 13), .int 0, .int 0, .int 0, .ref (am 14), .ref (am 15), .ref (am 16), .ref (am 17), .int 0, .ref (am 18), .ref (am 19), .ref (am 20)])), ((am 9), .inl (k 0, 8, .inl (fun _ => 0)))] : va_W)) [0, 1] (by decide) rfl).weaken (fun _ _ _ _ => trivial)) (m_refuse2 l D k hm am .null .null 0 _) gV_RX7_95 (by decide +kernel) rfl rfl ⟨Nat.le_of_ble_eq_true rfl, Nat.le_of_ble_eq_true rfl⟩ rfl rfl rfl rfl (Nat.le_of_ble_eq_true rfl) dX7_errands_27 ⟨Nat.le_of_ble_eq_true rfl, Nat.le_of_ble_eq_true rfl⟩) (fun r_6 u_4 H locs h_5 hP hD hS => ?_)
  have h_5 : r_6 = -2 := h_5
  have hP : va_P D gx_cl [] H := hP
  have hD : va_D A [] := hD
  have eh_5 := h_5
  subst eh_5
  exact gx_retI C (u := ()) gx_nil gx_noneD hS (rfl) dX7_errands_30
set_option maxHeartbeats 4000000 in
set_option maxRecDepth 100000 in
theorem m_cut_pub (l : Launch) (D : va_G) (k : Nat → ClassId) (hm : Nat) (am : Nat → Nat) (av : Int32) (bv : Int32) (cv : Int32) (sz : Nat) : Met l yX7_cut (.code yX7_cut cX7_cut 4 (some .int) :: gx_T) ({ frames := 3, cells := 0, slots := 0, locals := 69 }) (gx_Pre D k [.ref hm, .int av, .int bv, .int cv] ([(hm, .inr (5, [.ref (am 1), .ref (am 2), .ref (am 3), .ref (am 4), .ref (am 5), .ref (am 6), .ref (am 7), .ref (am 8), .int 0, .ref (am 9), .int 0, .ref (am 10), .int 0, .ref (am 11), .ref (am 12), .int 0, .int 0, .int 1, .null, .null, .int 0, .int 0, .int 0, .long 0, .int 0, .ref (am 13), .int 0, .int 0, .int 0, .ref (am 14), .ref (am 15), .ref (am 16), .ref (am 17), .int 0, .ref (am 18), .ref (am 19), .ref (am 20)])), ((am 9), .inl (k 0, 8, .inl (fun _ => 0)))]) sz) (gx_Qi D (fun (r : Int32) (u : Unit) => r = -2) (fun (u : Unit) => ([] : va_W)) (va_A ([(hm, .inr (5, [.ref (am 1), .ref (am 2), .ref (am 3), .ref (am 4), .ref (am 5), .ref (am 6), .ref (am 7), .ref (am 8), .int 0, .ref (am 9), .int 0, .ref (am 10), .int 0, .ref (am 11), .ref (am 12), .int 0, .int 0, .int 1, .null, .null, .int 0, .int 0, .int 0, .long 0, .int 0, .ref (am 13), .int 0, .int 0, .int 0, .ref (am 14), .ref (am 15), .ref (am 16), .ref (am 17), .int 0, .ref (am 18), .ref (am 19), .ref (am 20)])), ((am 9), .inl (k 0, 8, .inl (fun _ => 0)))]) sz)) 0 0 (va_A ([(hm, .inr (5, [.ref (am 1), .ref (am 2), .ref (am 3), .ref (am 4), .ref (am 5), .ref (am 6), .ref (am 7), .ref (am 8), .int 0, .ref (am 9), .int 0, .ref (am 10), .int 0, .ref (am 11), .ref (am 12), .int 0, .int 0, .int 1, .null, .null, .int 0, .int 0, .int 0, .long 0, .int 0, .ref (am 13), .int 0, .int 0, .int 0, .ref (am 14), .ref (am 15), .ref (am 16), .ref (am 17), .int 0, .ref (am 18), .ref (am 19), .ref (am 20)])), ((am 9), .inl (k 0, 8, .inl (fun _ => 0)))]) sz) := by
  refine gx_metE (Qc := fun A => gx_Qi D (fun (r : Int32) (u : Unit) => r = -2) (fun (u : Unit) => ([] : va_W)) A) (y := yX7_cut) (cc := cX7_cut) (n := 4) (ret := (some .int)) (av := [.ref hm, .int av, .int bv, .int cv]) (by decide) (Nat.le_of_ble_eq_true rfl) ?_
  intro p e s m below meth c A ls C hA hP hD hK hS hl
  obtain ⟨hx, hb, hr, hml, hown, hT, hlk, hin⟩ := id C
  have hown : s.vm.findClass RX7 = some m.cls := hown
  have hl : lv_has ls 4 [(0, .ref hm), (1, .int av), (2, .int bv), (3, .int cv)] := hl
  refine lv_aload_n hx hb dX7_cut_0 rfl (lv_at hl 0 rfl) ?_
  refine lv_iload_n hx hb dX7_cut_1 rfl (lv_at hl 1 rfl) ?_
  refine lv_iload_n hx hb dX7_cut_2 rfl (lv_at hl 2 rfl) ?_
  refine lv_iload_n hx hb dX7_cut_3 rfl (lv_at hl 3 rfl) ?_
  refine gx_pi hP hS (gx_runV (na := 3) (As := [.int av, .int bv, .int cv]) (rest := []) (ci := 5) C hl.1 hK (gx_subP (wc := ([(hm, .inr (5, [.ref (am 1), .ref (am 2), .ref (am 3), .ref (am 4), .ref (am 5), .ref (am 6), .ref (am 7), .ref (am 8), .int 0, .ref (am 9), .int 0, .ref (am 10), .int 0, .ref (am 11), .ref (am 12), .int 0, .int 0, .int 1, .null, .null, .int 0, .int 0, .int 0, .long 0, .int 0, .ref (am 13), .int 0, .int 0, .int 0, .ref (am 14), .ref (am 15), .ref (am 16), .ref (am 17), .int 0, .ref (am 18), .ref (am 19), .ref (am 20)]))] : va_W)) hP [0] rfl) ((hD.sub (ws' := ([(hm, .inr (5, [.ref (am 1), .ref (am 2), .ref (am 3), .ref (am 4), .ref (am 5), .ref (am 6), .ref (am 7), .ref (am 8), .int 0, .ref (am 9), .int 0, .ref (am 10), .int 0, .ref (am 11), .ref (am 12), .int 0, .int 0, .int 1, .null, .null, .int 0, .int 0, .int 0, .long 0, .int 0, .ref (am 13), .int 0, .int 0, .int 0, .ref (am 14), .ref (am 15), .ref (am 16), .ref (am 17), .int 0, .ref (am 18), .ref (am 19), .ref (am 20)]))] : va_W)) [0] (by decide) rfl).weaken (fun _ _ _ _ => trivial)) (m_areTwo l D k hm am av bv cv _) gV_RX7_329 (by decide +kernel) rfl rfl ⟨Nat.le_of_ble_eq_true rfl, Nat.le_of_ble_eq_true rfl⟩ rfl rfl rfl rfl (Nat.le_of_ble_eq_true rfl) dX7_cut_4 ⟨Nat.le_of_ble_eq_true rfl, Nat.le_of_ble_eq_true rfl⟩) (fun r_2 H locs c_1 hP hS => ?_)
  have c_1 : r_2 = 0 := c_1
  subst c_1
  refine lv_if_ne (tgt := 17) hx hb dX7_cut_7 (by decide) (fun c_3 => absurd (by decide) c_3) (fun c_3 => ?_)
  refine lv_aload_n hx hb dX7_cut_10 rfl (lv_at hl 0 rfl) ?_
  refine lv_bipush (v := (-2)) hx hb dX7_cut_11 (by decide) ?_
  refine gx_ei (wc := ([(hm, .inr (5, [.ref (am 1), .ref (am 2), .ref (am 3), .ref (am 4), .ref (am 5), .ref (am 6), .ref (am 7), .ref (am 8), .int 0, .ref (am 9), .int 0, .ref (am 10), .int 0, .ref (am 11), .ref (am 12), .int 0, .int 0, .int 1, .null, .null, .int 0, .int 0, .int 0, .long 0, .int 0, .ref (am 13), .int 0, .int 0, .int 0, .ref (am 14), .ref (am 15), .ref (am 16), .ref (am 17), .int 0, .ref (am 18), .ref (am 19), .ref (am 20)])), ((am 9), .inl (k 0, 8, .inl (fun _ => 0)))] : va_W)) (wr := []) (isC := [0, 1]) (isR := []) hP hD hS hA rfl rfl (by decide) (by decide) (gx_runV (na := 1) (As := [.int (-2)]) (rest := []) (ci := 5) C hl.1 hK (gx_subP (wc := ([(hm, .inr (5, [.ref (am 1), .ref (am 2), .ref (am 3), .ref (am 4), .ref (am 5), .ref (am 6), .ref (am 7), .ref (am 8), .int 0, .ref (am 9), .int 0, .ref (am 10), .int 0, .ref (am 11), .ref (am 12), .int 0, .int 0, .int 1, .null, .null, .int 0, .int 0, .int 0, .long 0, .int 0, .ref (am 13), .int 0, .int 0, .int 0, .ref (am 14), .ref (am 15), .ref (am 16), .ref (am 17), .int 0, .ref (am 18), .ref (am 19), .ref (am 20)])), ((am 9), .inl (k 0, 8, .inl (fun _ => 0)))] : va_W)) hP [0, 1] rfl) ((hD.sub (ws' := ([(hm, .inr (5, [.ref (am 1), .ref (am 2), .ref (am 3), .ref (am 4), .ref (am 5), .ref (am 6), .ref (am 7), .ref (am 8), .int 0, .ref (am 9), .int 0, .ref (am 10), .int 0, .ref (am 11), .ref (am 12), .int 0, .int 0, .int 1, .null, .null, .int 0, .int 0, .int 0, .long 0, .int 0, .ref (am 13), .int 0, .int 0, .int 0, .ref (am 14), .ref (am 15), .ref (am 16), .ref (am 17), .int 0, .ref (am 18), .ref (am 19), .ref (am 20)])), ((am 9), .inl (k 0, 8, .inl (fun _ => 0)))] : va_W)) [0, 1] (by decide) rfl).weaken (fun _ _ _ _ => trivial)) (m_refuse2 l D k hm am .null .null 0 _) gV_RX7_95 (by decide +kernel) rfl rfl ⟨Nat.le_of_ble_eq_true rfl, Nat.le_of_ble_eq_true rfl⟩ rfl rfl rfl rfl (Nat.le_of_ble_eq_true rfl) dX7_cut_13 ⟨Nat.le_of_ble_eq_true rfl, Nat.le_of_ble_eq_true rfl⟩) (fun r_6 u_4 H locs h_5 hP hD hS => ?_)
  have h_5 : r_6 = -2 := h_5
  have hP : va_P D gx_cl [] H := hP
  have hD : va_D A [] := hD
  have eh_5 := h_5
  subst eh_5
  exact gx_retI C (u := ()) gx_nil gx_noneD hS (rfl) dX7_cut_16
set_option maxHeartbeats 4000000 in
set_option maxRecDepth 100000 in
theorem m_meets_pub (l : Launch) (D : va_G) (k : Nat → ClassId) (hm : Nat) (am : Nat → Nat) (av : Int32) (bv : Int32) (cv : Int32) (sz : Nat) : Met l yX7_meets (.code yX7_meets cX7_meets 14 (some .int) :: gx_T) ({ frames := 3, cells := 0, slots := 0, locals := 71 }) (gx_Pre D k [.ref hm, .int av, .int bv, .int cv] ([(hm, .inr (5, [.ref (am 1), .ref (am 2), .ref (am 3), .ref (am 4), .ref (am 5), .ref (am 6), .ref (am 7), .ref (am 8), .int 0, .ref (am 9), .int 0, .ref (am 10), .int 0, .ref (am 11), .ref (am 12), .int 0, .int 0, .int 1, .null, .null, .int 0, .int 0, .int 0, .long 0, .int 0, .ref (am 13), .int 0, .int 0, .int 0, .ref (am 14), .ref (am 15), .ref (am 16), .ref (am 17), .int 0, .ref (am 18), .ref (am 19), .ref (am 20)])), ((am 9), .inl (k 0, 8, .inl (fun _ => 0)))]) sz) (gx_Qi D (fun (r : Int32) (u : Unit) => r = -2) (fun (u : Unit) => ([] : va_W)) (va_A ([(hm, .inr (5, [.ref (am 1), .ref (am 2), .ref (am 3), .ref (am 4), .ref (am 5), .ref (am 6), .ref (am 7), .ref (am 8), .int 0, .ref (am 9), .int 0, .ref (am 10), .int 0, .ref (am 11), .ref (am 12), .int 0, .int 0, .int 1, .null, .null, .int 0, .int 0, .int 0, .long 0, .int 0, .ref (am 13), .int 0, .int 0, .int 0, .ref (am 14), .ref (am 15), .ref (am 16), .ref (am 17), .int 0, .ref (am 18), .ref (am 19), .ref (am 20)])), ((am 9), .inl (k 0, 8, .inl (fun _ => 0)))]) sz)) 0 0 (va_A ([(hm, .inr (5, [.ref (am 1), .ref (am 2), .ref (am 3), .ref (am 4), .ref (am 5), .ref (am 6), .ref (am 7), .ref (am 8), .int 0, .ref (am 9), .int 0, .ref (am 10), .int 0, .ref (am 11), .ref (am 12), .int 0, .int 0, .int 1, .null, .null, .int 0, .int 0, .int 0, .long 0, .int 0, .ref (am 13), .int 0, .int 0, .int 0, .ref (am 14), .ref (am 15), .ref (am 16), .ref (am 17), .int 0, .ref (am 18), .ref (am 19), .ref (am 20)])), ((am 9), .inl (k 0, 8, .inl (fun _ => 0)))]) sz) := by
  refine gx_metE (Qc := fun A => gx_Qi D (fun (r : Int32) (u : Unit) => r = -2) (fun (u : Unit) => ([] : va_W)) A) (y := yX7_meets) (cc := cX7_meets) (n := 14) (ret := (some .int)) (av := [.ref hm, .int av, .int bv, .int cv]) (by decide) (Nat.le_of_ble_eq_true rfl) ?_
  intro p e s m below meth c A ls C hA hP hD hK hS hl
  obtain ⟨hx, hb, hr, hml, hown, hT, hlk, hin⟩ := id C
  have hown : s.vm.findClass RX7 = some m.cls := hown
  have hl : lv_has ls 14 [(0, .ref hm), (1, .int av), (2, .int bv), (3, .int cv)] := hl
  refine lv_aload_n hx hb dX7_meets_0 rfl (lv_at hl 0 rfl) ?_
  refine lv_iload_n hx hb dX7_meets_1 rfl (lv_at hl 1 rfl) ?_
  refine lv_iload_n hx hb dX7_meets_2 rfl (lv_at hl 2 rfl) ?_
  refine lv_iload_n hx hb dX7_meets_3 rfl (lv_at hl 3 rfl) ?_
  refine lv_bipush (v := 8) hx hb dX7_meets_4 (by decide) ?_
  refine gx_ei (wc := ([(hm, .inr (5, [.ref (am 1), .ref (am 2), .ref (am 3), .ref (am 4), .ref (am 5), .ref (am 6), .ref (am 7), .ref (am 8), .int 0, .ref (am 9), .int 0, .ref (am 10), .int 0, .ref (am 11), .ref (am 12), .int 0, .int 0, .int 1, .null, .null, .int 0, .int 0, .int 0, .long 0, .int 0, .ref (am 13), .int 0, .int 0, .int 0, .ref (am 14), .ref (am 15), .ref (am 16), .ref (am 17), .int 0, .ref (am 18), .ref (am 19), .ref (am 20)])), ((am 9), .inl (k 0, 8, .inl (fun _ => 0)))] : va_W)) (wr := []) (isC := [0, 1]) (isR := []) hP hD hS hA rfl rfl (by decide) (by decide) (gx_runV (na := 4) (As := [.int av, .int bv, .int cv, .int 8]) (rest := []) (ci := 5) C hl.1 hK (gx_subP (wc := ([(hm, .inr (5, [.ref (am 1), .ref (am 2), .ref (am 3), .ref (am 4), .ref (am 5), .ref (am 6), .ref (am 7), .ref (am 8), .int 0, .ref (am 9), .int 0, .ref (am 10), .int 0, .ref (am 11), .ref (am 12), .int 0, .int 0, .int 1, .null, .null, .int 0, .int 0, .int 0, .long 0, .int 0, .ref (am 13), .int 0, .int 0, .int 0, .ref (am 14), .ref (am 15), .ref (am 16), .ref (am 17), .int 0, .ref (am 18), .ref (am 19), .ref (am 20)])), ((am 9), .inl (k 0, 8, .inl (fun _ => 0)))] : va_W)) hP [0, 1] rfl) ((hD.sub (ws' := ([(hm, .inr (5, [.ref (am 1), .ref (am 2), .ref (am 3), .ref (am 4), .ref (am 5), .ref (am 6), .ref (am 7), .ref (am 8), .int 0, .ref (am 9), .int 0, .ref (am 10), .int 0, .ref (am 11), .ref (am 12), .int 0, .int 0, .int 1, .null, .null, .int 0, .int 0, .int 0, .long 0, .int 0, .ref (am 13), .int 0, .int 0, .int 0, .ref (am 14), .ref (am 15), .ref (am 16), .ref (am 17), .int 0, .ref (am 18), .ref (am 19), .ref (am 20)])), ((am 9), .inl (k 0, 8, .inl (fun _ => 0)))] : va_W)) [0, 1] (by decide) rfl).weaken (fun _ _ _ _ => trivial)) (m_noTold l D k hm am av bv cv 8 _) gV_RX7_293 (by decide +kernel) rfl rfl ⟨Nat.le_of_ble_eq_true rfl, Nat.le_of_ble_eq_true rfl⟩ rfl rfl rfl rfl (Nat.le_of_ble_eq_true rfl) dX7_meets_6 ⟨Nat.le_of_ble_eq_true rfl, Nat.le_of_ble_eq_true rfl⟩) (fun r_3 u_1 H locs h_2 hP hD hS => ?_)
  have h_2 : r_3 = -2 := h_2
  have hP : va_P D gx_cl [] H := hP
  have hD : va_D A [] := hD
  have eh_2 := h_2
  subst eh_2
  refine lv_istore (lv' := [(4, .int (-2)), (0, .ref hm), (1, .int av), (2, .int bv), (3, .int cv)]) hx hb dX7_meets_9 hl (by decide) rfl (fun ls hl => ?_)
  refine lv_iload hx hb dX7_meets_11 (lv_at hl 0 rfl) ?_
  refine lv_if_eq (tgt := 19) hx hb dX7_meets_13 (by decide) (fun c_5 => absurd c_5 (by decide)) (fun c_5 => ?_)
  refine lv_iload hx hb dX7_meets_16 (lv_at hl 0 rfl) ?_
  exact gx_retI C (u := ()) gx_nil gx_noneD hS (rfl) dX7_meets_18
set_option maxHeartbeats 4000000 in
set_option maxRecDepth 100000 in
theorem m_near_pub (l : Launch) (D : va_G) (k : Nat → ClassId) (hm : Nat) (am : Nat → Nat) (av : Int32) (bv : Int32) (sz : Nat) : Met l yX7_near (.code yX7_near cX7_near 3 (some .int) :: gx_T) ({ frames := 2, cells := 0, slots := 0, locals := 46 }) (gx_Pre D k [.ref hm, .int av, .int bv] ([(hm, .inr (5, [.ref (am 1), .ref (am 2), .ref (am 3), .ref (am 4), .ref (am 5), .ref (am 6), .ref (am 7), .ref (am 8), .int 0, .ref (am 9), .int 0, .ref (am 10), .int 0, .ref (am 11), .ref (am 12), .int 0, .int 0, .int 1, .null, .null, .int 0, .int 0, .int 0, .long 0, .int 0, .ref (am 13), .int 0, .int 0, .int 0, .ref (am 14), .ref (am 15), .ref (am 16), .ref (am 17), .int 0, .ref (am 18), .ref (am 19), .ref (am 20)])), ((am 9), .inl (k 0, 8, .inl (fun _ => 0)))]) sz) (gx_Qi D (fun (r : Int32) (u : Unit) => r = -2) (fun (u : Unit) => ([] : va_W)) (va_A ([(hm, .inr (5, [.ref (am 1), .ref (am 2), .ref (am 3), .ref (am 4), .ref (am 5), .ref (am 6), .ref (am 7), .ref (am 8), .int 0, .ref (am 9), .int 0, .ref (am 10), .int 0, .ref (am 11), .ref (am 12), .int 0, .int 0, .int 1, .null, .null, .int 0, .int 0, .int 0, .long 0, .int 0, .ref (am 13), .int 0, .int 0, .int 0, .ref (am 14), .ref (am 15), .ref (am 16), .ref (am 17), .int 0, .ref (am 18), .ref (am 19), .ref (am 20)])), ((am 9), .inl (k 0, 8, .inl (fun _ => 0)))]) sz)) 0 0 (va_A ([(hm, .inr (5, [.ref (am 1), .ref (am 2), .ref (am 3), .ref (am 4), .ref (am 5), .ref (am 6), .ref (am 7), .ref (am 8), .int 0, .ref (am 9), .int 0, .ref (am 10), .int 0, .ref (am 11), .ref (am 12), .int 0, .int 0, .int 1, .null, .null, .int 0, .int 0, .int 0, .long 0, .int 0, .ref (am 13), .int 0, .int 0, .int 0, .ref (am 14), .ref (am 15), .ref (am 16), .ref (am 17), .int 0, .ref (am 18), .ref (am 19), .ref (am 20)])), ((am 9), .inl (k 0, 8, .inl (fun _ => 0)))]) sz) := by
  refine gx_metE (Qc := fun A => gx_Qi D (fun (r : Int32) (u : Unit) => r = -2) (fun (u : Unit) => ([] : va_W)) A) (y := yX7_near) (cc := cX7_near) (n := 3) (ret := (some .int)) (av := [.ref hm, .int av, .int bv]) (by decide) (Nat.le_of_ble_eq_true rfl) ?_
  intro p e s m below meth c A ls C hA hP hD hK hS hl
  obtain ⟨hx, hb, hr, hml, hown, hT, hlk, hin⟩ := id C
  have hown : s.vm.findClass RX7 = some m.cls := hown
  have hl : lv_has ls 3 [(0, .ref hm), (1, .int av), (2, .int bv)] := hl
  refine lv_aload_n hx hb dX7_near_0 rfl (lv_at hl 0 rfl) ?_
  refine lv_iload_n hx hb dX7_near_1 rfl (lv_at hl 1 rfl) ?_
  refine gx_pi hP hS (gx_runV (na := 1) (As := [.int av]) (rest := []) (ci := 5) C hl.1 hK (gx_subP (wc := ([(hm, .inr (5, [.ref (am 1), .ref (am 2), .ref (am 3), .ref (am 4), .ref (am 5), .ref (am 6), .ref (am 7), .ref (am 8), .int 0, .ref (am 9), .int 0, .ref (am 10), .int 0, .ref (am 11), .ref (am 12), .int 0, .int 0, .int 1, .null, .null, .int 0, .int 0, .int 0, .long 0, .int 0, .ref (am 13), .int 0, .int 0, .int 0, .ref (am 14), .ref (am 15), .ref (am 16), .ref (am 17), .int 0, .ref (am 18), .ref (am 19), .ref (am 20)]))] : va_W)) hP [0] rfl) ((hD.sub (ws' := ([(hm, .inr (5, [.ref (am 1), .ref (am 2), .ref (am 3), .ref (am 4), .ref (am 5), .ref (am 6), .ref (am 7), .ref (am 8), .int 0, .ref (am 9), .int 0, .ref (am 10), .int 0, .ref (am 11), .ref (am 12), .int 0, .int 0, .int 1, .null, .null, .int 0, .int 0, .int 0, .long 0, .int 0, .ref (am 13), .int 0, .int 0, .int 0, .ref (am 14), .ref (am 15), .ref (am 16), .ref (am 17), .int 0, .ref (am 18), .ref (am 19), .ref (am 20)]))] : va_W)) [0] (by decide) rfl).weaken (fun _ _ _ _ => trivial)) (m_isOne l D k hm am av _) gV_RX7_235 (by decide +kernel) rfl rfl ⟨Nat.le_of_ble_eq_true rfl, Nat.le_of_ble_eq_true rfl⟩ rfl rfl rfl rfl (Nat.le_of_ble_eq_true rfl) dX7_near_2 ⟨Nat.le_of_ble_eq_true rfl, Nat.le_of_ble_eq_true rfl⟩) (fun r_2 H locs c_1 hP hS => ?_)
  have c_1 : r_2 = 0 := c_1
  subst c_1
  refine lv_if_eq (tgt := 16) hx hb dX7_near_5 (by decide) (fun c_3 => ?_) (fun c_3 => absurd (by decide) c_3)
  refine lv_aload_n hx hb dX7_near_16 rfl (lv_at hl 0 rfl) ?_
  refine lv_bipush (v := (-2)) hx hb dX7_near_17 (by decide) ?_
  refine gx_ei (wc := ([(hm, .inr (5, [.ref (am 1), .ref (am 2), .ref (am 3), .ref (am 4), .ref (am 5), .ref (am 6), .ref (am 7), .ref (am 8), .int 0, .ref (am 9), .int 0, .ref (am 10), .int 0, .ref (am 11), .ref (am 12), .int 0, .int 0, .int 1, .null, .null, .int 0, .int 0, .int 0, .long 0, .int 0, .ref (am 13), .int 0, .int 0, .int 0, .ref (am 14), .ref (am 15), .ref (am 16), .ref (am 17), .int 0, .ref (am 18), .ref (am 19), .ref (am 20)])), ((am 9), .inl (k 0, 8, .inl (fun _ => 0)))] : va_W)) (wr := []) (isC := [0, 1]) (isR := []) hP hD hS hA rfl rfl (by decide) (by decide) (gx_runV (na := 1) (As := [.int (-2)]) (rest := []) (ci := 5) C hl.1 hK (gx_subP (wc := ([(hm, .inr (5, [.ref (am 1), .ref (am 2), .ref (am 3), .ref (am 4), .ref (am 5), .ref (am 6), .ref (am 7), .ref (am 8), .int 0, .ref (am 9), .int 0, .ref (am 10), .int 0, .ref (am 11), .ref (am 12), .int 0, .int 0, .int 1, .null, .null, .int 0, .int 0, .int 0, .long 0, .int 0, .ref (am 13), .int 0, .int 0, .int 0, .ref (am 14), .ref (am 15), .ref (am 16), .ref (am 17), .int 0, .ref (am 18), .ref (am 19), .ref (am 20)])), ((am 9), .inl (k 0, 8, .inl (fun _ => 0)))] : va_W)) hP [0, 1] rfl) ((hD.sub (ws' := ([(hm, .inr (5, [.ref (am 1), .ref (am 2), .ref (am 3), .ref (am 4), .ref (am 5), .ref (am 6), .ref (am 7), .ref (am 8), .int 0, .ref (am 9), .int 0, .ref (am 10), .int 0, .ref (am 11), .ref (am 12), .int 0, .int 0, .int 1, .null, .null, .int 0, .int 0, .int 0, .long 0, .int 0, .ref (am 13), .int 0, .int 0, .int 0, .ref (am 14), .ref (am 15), .ref (am 16), .ref (am 17), .int 0, .ref (am 18), .ref (am 19), .ref (am 20)])), ((am 9), .inl (k 0, 8, .inl (fun _ => 0)))] : va_W)) [0, 1] (by decide) rfl).weaken (fun _ _ _ _ => trivial)) (m_refuse2 l D k hm am .null .null 0 _) gV_RX7_95 (by decide +kernel) rfl rfl ⟨Nat.le_of_ble_eq_true rfl, Nat.le_of_ble_eq_true rfl⟩ rfl rfl rfl rfl (Nat.le_of_ble_eq_true rfl) dX7_near_19 ⟨Nat.le_of_ble_eq_true rfl, Nat.le_of_ble_eq_true rfl⟩) (fun r_6 u_4 H locs h_5 hP hD hS => ?_)
  have h_5 : r_6 = -2 := h_5
  have hP : va_P D gx_cl [] H := hP
  have hD : va_D A [] := hD
  have eh_5 := h_5
  subst eh_5
  exact gx_retI C (u := ()) gx_nil gx_noneD hS (rfl) dX7_near_22
set_option maxHeartbeats 4000000 in
set_option maxRecDepth 100000 in
theorem m_together_pub (l : Launch) (D : va_G) (k : Nat → ClassId) (hm : Nat) (am : Nat → Nat) (av : Int32) (bv : Int32) (cv : Int32) (sz : Nat) : Met l yX7_together (.code yX7_together cX7_together 7 (some .int) :: gx_T) ({ frames := 2, cells := 0, slots := 0, locals := 46 }) (gx_Pre D k [.ref hm, .int av, .int bv, .int cv] ([(hm, .inr (5, [.ref (am 1), .ref (am 2), .ref (am 3), .ref (am 4), .ref (am 5), .ref (am 6), .ref (am 7), .ref (am 8), .int 0, .ref (am 9), .int 0, .ref (am 10), .int 0, .ref (am 11), .ref (am 12), .int 0, .int 0, .int 1, .null, .null, .int 0, .int 0, .int 0, .long 0, .int 0, .ref (am 13), .int 0, .int 0, .int 0, .ref (am 14), .ref (am 15), .ref (am 16), .ref (am 17), .int 0, .ref (am 18), .ref (am 19), .ref (am 20)])), ((am 9), .inl (k 0, 8, .inl (fun _ => 0)))]) sz) (gx_Qi D (fun (r : Int32) (u : Unit) => r = -2) (fun (u : Unit) => ([] : va_W)) (va_A ([(hm, .inr (5, [.ref (am 1), .ref (am 2), .ref (am 3), .ref (am 4), .ref (am 5), .ref (am 6), .ref (am 7), .ref (am 8), .int 0, .ref (am 9), .int 0, .ref (am 10), .int 0, .ref (am 11), .ref (am 12), .int 0, .int 0, .int 1, .null, .null, .int 0, .int 0, .int 0, .long 0, .int 0, .ref (am 13), .int 0, .int 0, .int 0, .ref (am 14), .ref (am 15), .ref (am 16), .ref (am 17), .int 0, .ref (am 18), .ref (am 19), .ref (am 20)])), ((am 9), .inl (k 0, 8, .inl (fun _ => 0)))]) sz)) 0 0 (va_A ([(hm, .inr (5, [.ref (am 1), .ref (am 2), .ref (am 3), .ref (am 4), .ref (am 5), .ref (am 6), .ref (am 7), .ref (am 8), .int 0, .ref (am 9), .int 0, .ref (am 10), .int 0, .ref (am 11), .ref (am 12), .int 0, .int 0, .int 1, .null, .null, .int 0, .int 0, .int 0, .long 0, .int 0, .ref (am 13), .int 0, .int 0, .int 0, .ref (am 14), .ref (am 15), .ref (am 16), .ref (am 17), .int 0, .ref (am 18), .ref (am 19), .ref (am 20)])), ((am 9), .inl (k 0, 8, .inl (fun _ => 0)))]) sz) := by
  refine gx_metE (Qc := fun A => gx_Qi D (fun (r : Int32) (u : Unit) => r = -2) (fun (u : Unit) => ([] : va_W)) A) (y := yX7_together) (cc := cX7_together) (n := 7) (ret := (some .int)) (av := [.ref hm, .int av, .int bv, .int cv]) (by decide) (Nat.le_of_ble_eq_true rfl) ?_
  intro p e s m below meth c A ls C hA hP hD hK hS hl
  obtain ⟨hx, hb, hr, hml, hown, hT, hlk, hin⟩ := id C
  have hown : s.vm.findClass RX7 = some m.cls := hown
  have hl : lv_has ls 7 [(0, .ref hm), (1, .int av), (2, .int bv), (3, .int cv)] := hl
  refine lv_aload_n hx hb dX7_together_0 rfl (lv_at hl 0 rfl) ?_
  refine lv_iload_n hx hb dX7_together_1 rfl (lv_at hl 1 rfl) ?_
  refine gx_pi hP hS (gx_runV (na := 1) (As := [.int av]) (rest := []) (ci := 5) C hl.1 hK (gx_subP (wc := ([(hm, .inr (5, [.ref (am 1), .ref (am 2), .ref (am 3), .ref (am 4), .ref (am 5), .ref (am 6), .ref (am 7), .ref (am 8), .int 0, .ref (am 9), .int 0, .ref (am 10), .int 0, .ref (am 11), .ref (am 12), .int 0, .int 0, .int 1, .null, .null, .int 0, .int 0, .int 0, .long 0, .int 0, .ref (am 13), .int 0, .int 0, .int 0, .ref (am 14), .ref (am 15), .ref (am 16), .ref (am 17), .int 0, .ref (am 18), .ref (am 19), .ref (am 20)]))] : va_W)) hP [0] rfl) ((hD.sub (ws' := ([(hm, .inr (5, [.ref (am 1), .ref (am 2), .ref (am 3), .ref (am 4), .ref (am 5), .ref (am 6), .ref (am 7), .ref (am 8), .int 0, .ref (am 9), .int 0, .ref (am 10), .int 0, .ref (am 11), .ref (am 12), .int 0, .int 0, .int 1, .null, .null, .int 0, .int 0, .int 0, .long 0, .int 0, .ref (am 13), .int 0, .int 0, .int 0, .ref (am 14), .ref (am 15), .ref (am 16), .ref (am 17), .int 0, .ref (am 18), .ref (am 19), .ref (am 20)]))] : va_W)) [0] (by decide) rfl).weaken (fun _ _ _ _ => trivial)) (m_isOne l D k hm am av _) gV_RX7_235 (by decide +kernel) rfl rfl ⟨Nat.le_of_ble_eq_true rfl, Nat.le_of_ble_eq_true rfl⟩ rfl rfl rfl rfl (Nat.le_of_ble_eq_true rfl) dX7_together_2 ⟨Nat.le_of_ble_eq_true rfl, Nat.le_of_ble_eq_true rfl⟩) (fun r_2 H locs c_1 hP hS => ?_)
  have c_1 : r_2 = 0 := c_1
  subst c_1
  refine lv_if_eq (tgt := 33) hx hb dX7_together_5 (by decide) (fun c_3 => ?_) (fun c_3 => absurd (by decide) c_3)
  refine lv_aload_n hx hb dX7_together_33 rfl (lv_at hl 0 rfl) ?_
  refine lv_bipush (v := (-2)) hx hb dX7_together_34 (by decide) ?_
  refine gx_ei (wc := ([(hm, .inr (5, [.ref (am 1), .ref (am 2), .ref (am 3), .ref (am 4), .ref (am 5), .ref (am 6), .ref (am 7), .ref (am 8), .int 0, .ref (am 9), .int 0, .ref (am 10), .int 0, .ref (am 11), .ref (am 12), .int 0, .int 0, .int 1, .null, .null, .int 0, .int 0, .int 0, .long 0, .int 0, .ref (am 13), .int 0, .int 0, .int 0, .ref (am 14), .ref (am 15), .ref (am 16), .ref (am 17), .int 0, .ref (am 18), .ref (am 19), .ref (am 20)])), ((am 9), .inl (k 0, 8, .inl (fun _ => 0)))] : va_W)) (wr := []) (isC := [0, 1]) (isR := []) hP hD hS hA rfl rfl (by decide) (by decide) (gx_runV (na := 1) (As := [.int (-2)]) (rest := []) (ci := 5) C hl.1 hK (gx_subP (wc := ([(hm, .inr (5, [.ref (am 1), .ref (am 2), .ref (am 3), .ref (am 4), .ref (am 5), .ref (am 6), .ref (am 7), .ref (am 8), .int 0, .ref (am 9), .int 0, .ref (am 10), .int 0, .ref (am 11), .ref (am 12), .int 0, .int 0, .int 1, .null, .null, .int 0, .int 0, .int 0, .long 0, .int 0, .ref (am 13), .int 0, .int 0, .int 0, .ref (am 14), .ref (am 15), .ref (am 16), .ref (am 17), .int 0, .ref (am 18), .ref (am 19), .ref (am 20)])), ((am 9), .inl (k 0, 8, .inl (fun _ => 0)))] : va_W)) hP [0, 1] rfl) ((hD.sub (ws' := ([(hm, .inr (5, [.ref (am 1), .ref (am 2), .ref (am 3), .ref (am 4), .ref (am 5), .ref (am 6), .ref (am 7), .ref (am 8), .int 0, .ref (am 9), .int 0, .ref (am 10), .int 0, .ref (am 11), .ref (am 12), .int 0, .int 0, .int 1, .null, .null, .int 0, .int 0, .int 0, .long 0, .int 0, .ref (am 13), .int 0, .int 0, .int 0, .ref (am 14), .ref (am 15), .ref (am 16), .ref (am 17), .int 0, .ref (am 18), .ref (am 19), .ref (am 20)])), ((am 9), .inl (k 0, 8, .inl (fun _ => 0)))] : va_W)) [0, 1] (by decide) rfl).weaken (fun _ _ _ _ => trivial)) (m_refuse2 l D k hm am .null .null 0 _) gV_RX7_95 (by decide +kernel) rfl rfl ⟨Nat.le_of_ble_eq_true rfl, Nat.le_of_ble_eq_true rfl⟩ rfl rfl rfl rfl (Nat.le_of_ble_eq_true rfl) dX7_together_36 ⟨Nat.le_of_ble_eq_true rfl, Nat.le_of_ble_eq_true rfl⟩) (fun r_6 u_4 H locs h_5 hP hD hS => ?_)
  have h_5 : r_6 = -2 := h_5
  have hP : va_P D gx_cl [] H := hP
  have hD : va_D A [] := hD
  have eh_5 := h_5
  subst eh_5
  exact gx_retI C (u := ()) gx_nil gx_noneD hS (rfl) dX7_together_39
set_option maxHeartbeats 4000000 in
set_option maxRecDepth 100000 in
theorem m_frees_pub (l : Launch) (D : va_G) (k : Nat → ClassId) (hm : Nat) (am : Nat → Nat) (av : Int32) (sz : Nat) : Met l yX7_frees (.code yX7_frees cX7_frees 2 (some .int) :: gx_T) ({ frames := 2, cells := 0, slots := 0, locals := 46 }) (gx_Pre D k [.ref hm, .int av] ([(hm, .inr (5, [.ref (am 1), .ref (am 2), .ref (am 3), .ref (am 4), .ref (am 5), .ref (am 6), .ref (am 7), .ref (am 8), .int 0, .ref (am 9), .int 0, .ref (am 10), .int 0, .ref (am 11), .ref (am 12), .int 0, .int 0, .int 1, .null, .null, .int 0, .int 0, .int 0, .long 0, .int 0, .ref (am 13), .int 0, .int 0, .int 0, .ref (am 14), .ref (am 15), .ref (am 16), .ref (am 17), .int 0, .ref (am 18), .ref (am 19), .ref (am 20)])), ((am 9), .inl (k 0, 8, .inl (fun _ => 0)))]) sz) (gx_Qi D (fun (r : Int32) (u : Unit) => r = -2) (fun (u : Unit) => ([] : va_W)) (va_A ([(hm, .inr (5, [.ref (am 1), .ref (am 2), .ref (am 3), .ref (am 4), .ref (am 5), .ref (am 6), .ref (am 7), .ref (am 8), .int 0, .ref (am 9), .int 0, .ref (am 10), .int 0, .ref (am 11), .ref (am 12), .int 0, .int 0, .int 1, .null, .null, .int 0, .int 0, .int 0, .long 0, .int 0, .ref (am 13), .int 0, .int 0, .int 0, .ref (am 14), .ref (am 15), .ref (am 16), .ref (am 17), .int 0, .ref (am 18), .ref (am 19), .ref (am 20)])), ((am 9), .inl (k 0, 8, .inl (fun _ => 0)))]) sz)) 0 0 (va_A ([(hm, .inr (5, [.ref (am 1), .ref (am 2), .ref (am 3), .ref (am 4), .ref (am 5), .ref (am 6), .ref (am 7), .ref (am 8), .int 0, .ref (am 9), .int 0, .ref (am 10), .int 0, .ref (am 11), .ref (am 12), .int 0, .int 0, .int 1, .null, .null, .int 0, .int 0, .int 0, .long 0, .int 0, .ref (am 13), .int 0, .int 0, .int 0, .ref (am 14), .ref (am 15), .ref (am 16), .ref (am 17), .int 0, .ref (am 18), .ref (am 19), .ref (am 20)])), ((am 9), .inl (k 0, 8, .inl (fun _ => 0)))]) sz) := by
  refine gx_metE (Qc := fun A => gx_Qi D (fun (r : Int32) (u : Unit) => r = -2) (fun (u : Unit) => ([] : va_W)) A) (y := yX7_frees) (cc := cX7_frees) (n := 2) (ret := (some .int)) (av := [.ref hm, .int av]) (by decide) (Nat.le_of_ble_eq_true rfl) ?_
  intro p e s m below meth c A ls C hA hP hD hK hS hl
  obtain ⟨hx, hb, hr, hml, hown, hT, hlk, hin⟩ := id C
  have hown : s.vm.findClass RX7 = some m.cls := hown
  have hl : lv_has ls 2 [(0, .ref hm), (1, .int av)] := hl
  refine lv_aload_n hx hb dX7_frees_0 rfl (lv_at hl 0 rfl) ?_
  refine lv_iload_n hx hb dX7_frees_1 rfl (lv_at hl 1 rfl) ?_
  refine gx_pi hP hS (gx_runV (na := 1) (As := [.int av]) (rest := []) (ci := 5) C hl.1 hK (gx_subP (wc := ([(hm, .inr (5, [.ref (am 1), .ref (am 2), .ref (am 3), .ref (am 4), .ref (am 5), .ref (am 6), .ref (am 7), .ref (am 8), .int 0, .ref (am 9), .int 0, .ref (am 10), .int 0, .ref (am 11), .ref (am 12), .int 0, .int 0, .int 1, .null, .null, .int 0, .int 0, .int 0, .long 0, .int 0, .ref (am 13), .int 0, .int 0, .int 0, .ref (am 14), .ref (am 15), .ref (am 16), .ref (am 17), .int 0, .ref (am 18), .ref (am 19), .ref (am 20)]))] : va_W)) hP [0] rfl) ((hD.sub (ws' := ([(hm, .inr (5, [.ref (am 1), .ref (am 2), .ref (am 3), .ref (am 4), .ref (am 5), .ref (am 6), .ref (am 7), .ref (am 8), .int 0, .ref (am 9), .int 0, .ref (am 10), .int 0, .ref (am 11), .ref (am 12), .int 0, .int 0, .int 1, .null, .null, .int 0, .int 0, .int 0, .long 0, .int 0, .ref (am 13), .int 0, .int 0, .int 0, .ref (am 14), .ref (am 15), .ref (am 16), .ref (am 17), .int 0, .ref (am 18), .ref (am 19), .ref (am 20)]))] : va_W)) [0] (by decide) rfl).weaken (fun _ _ _ _ => trivial)) (m_isOne l D k hm am av _) gV_RX7_235 (by decide +kernel) rfl rfl ⟨Nat.le_of_ble_eq_true rfl, Nat.le_of_ble_eq_true rfl⟩ rfl rfl rfl rfl (Nat.le_of_ble_eq_true rfl) dX7_frees_2 ⟨Nat.le_of_ble_eq_true rfl, Nat.le_of_ble_eq_true rfl⟩) (fun r_2 H locs c_1 hP hS => ?_)
  have c_1 : r_2 = 0 := c_1
  subst c_1
  refine lv_if_eq (tgt := 41) hx hb dX7_frees_5 (by decide) (fun c_3 => ?_) (fun c_3 => absurd (by decide) c_3)
  refine lv_aload_n hx hb dX7_frees_41 rfl (lv_at hl 0 rfl) ?_
  refine lv_bipush (v := (-2)) hx hb dX7_frees_42 (by decide) ?_
  refine gx_ei (wc := ([(hm, .inr (5, [.ref (am 1), .ref (am 2), .ref (am 3), .ref (am 4), .ref (am 5), .ref (am 6), .ref (am 7), .ref (am 8), .int 0, .ref (am 9), .int 0, .ref (am 10), .int 0, .ref (am 11), .ref (am 12), .int 0, .int 0, .int 1, .null, .null, .int 0, .int 0, .int 0, .long 0, .int 0, .ref (am 13), .int 0, .int 0, .int 0, .ref (am 14), .ref (am 15), .ref (am 16), .ref (am 17), .int 0, .ref (am 18), .ref (am 19), .ref (am 20)])), ((am 9), .inl (k 0, 8, .inl (fun _ => 0)))] : va_W)) (wr := []) (isC := [0, 1]) (isR := []) hP hD hS hA rfl rfl (by decide) (by decide) (gx_runV (na := 1) (As := [.int (-2)]) (rest := []) (ci := 5) C hl.1 hK (gx_subP (wc := ([(hm, .inr (5, [.ref (am 1), .ref (am 2), .ref (am 3), .ref (am 4), .ref (am 5), .ref (am 6), .ref (am 7), .ref (am 8), .int 0, .ref (am 9), .int 0, .ref (am 10), .int 0, .ref (am 11), .ref (am 12), .int 0, .int 0, .int 1, .null, .null, .int 0, .int 0, .int 0, .long 0, .int 0, .ref (am 13), .int 0, .int 0, .int 0, .ref (am 14), .ref (am 15), .ref (am 16), .ref (am 17), .int 0, .ref (am 18), .ref (am 19), .ref (am 20)])), ((am 9), .inl (k 0, 8, .inl (fun _ => 0)))] : va_W)) hP [0, 1] rfl) ((hD.sub (ws' := ([(hm, .inr (5, [.ref (am 1), .ref (am 2), .ref (am 3), .ref (am 4), .ref (am 5), .ref (am 6), .ref (am 7), .ref (am 8), .int 0, .ref (am 9), .int 0, .ref (am 10), .int 0, .ref (am 11), .ref (am 12), .int 0, .int 0, .int 1, .null, .null, .int 0, .int 0, .int 0, .long 0, .int 0, .ref (am 13), .int 0, .int 0, .int 0, .ref (am 14), .ref (am 15), .ref (am 16), .ref (am 17), .int 0, .ref (am 18), .ref (am 19), .ref (am 20)])), ((am 9), .inl (k 0, 8, .inl (fun _ => 0)))] : va_W)) [0, 1] (by decide) rfl).weaken (fun _ _ _ _ => trivial)) (m_refuse2 l D k hm am .null .null 0 _) gV_RX7_95 (by decide +kernel) rfl rfl ⟨Nat.le_of_ble_eq_true rfl, Nat.le_of_ble_eq_true rfl⟩ rfl rfl rfl rfl (Nat.le_of_ble_eq_true rfl) dX7_frees_44 ⟨Nat.le_of_ble_eq_true rfl, Nat.le_of_ble_eq_true rfl⟩) (fun r_6 u_4 H locs h_5 hP hD hS => ?_)
  have h_5 : r_6 = -2 := h_5
  have hP : va_P D gx_cl [] H := hP
  have hD : va_D A [] := hD
  have eh_5 := h_5
  subst eh_5
  exact gx_retI C (u := ()) gx_nil gx_noneD hS (rfl) dX7_frees_47
set_option maxHeartbeats 4000000 in
set_option maxRecDepth 100000 in
theorem m_send_pub (l : Launch) (D : va_G) (k : Nat → ClassId) (hm : Nat) (am : Nat → Nat) (av : Int32) (bv : Int32) (sz : Nat) : Met l yX7_send (.code yX7_send cX7_send 4 (some .int) :: gx_T) ({ frames := 2, cells := 0, slots := 0, locals := 46 }) (gx_Pre D k [.ref hm, .int av, .int bv] ([(hm, .inr (5, [.ref (am 1), .ref (am 2), .ref (am 3), .ref (am 4), .ref (am 5), .ref (am 6), .ref (am 7), .ref (am 8), .int 0, .ref (am 9), .int 0, .ref (am 10), .int 0, .ref (am 11), .ref (am 12), .int 0, .int 0, .int 1, .null, .null, .int 0, .int 0, .int 0, .long 0, .int 0, .ref (am 13), .int 0, .int 0, .int 0, .ref (am 14), .ref (am 15), .ref (am 16), .ref (am 17), .int 0, .ref (am 18), .ref (am 19), .ref (am 20)])), ((am 9), .inl (k 0, 8, .inl (fun _ => 0)))]) sz) (gx_Qi D (fun (r : Int32) (u : Unit) => r = -2) (fun (u : Unit) => ([] : va_W)) (va_A ([(hm, .inr (5, [.ref (am 1), .ref (am 2), .ref (am 3), .ref (am 4), .ref (am 5), .ref (am 6), .ref (am 7), .ref (am 8), .int 0, .ref (am 9), .int 0, .ref (am 10), .int 0, .ref (am 11), .ref (am 12), .int 0, .int 0, .int 1, .null, .null, .int 0, .int 0, .int 0, .long 0, .int 0, .ref (am 13), .int 0, .int 0, .int 0, .ref (am 14), .ref (am 15), .ref (am 16), .ref (am 17), .int 0, .ref (am 18), .ref (am 19), .ref (am 20)])), ((am 9), .inl (k 0, 8, .inl (fun _ => 0)))]) sz)) 0 0 (va_A ([(hm, .inr (5, [.ref (am 1), .ref (am 2), .ref (am 3), .ref (am 4), .ref (am 5), .ref (am 6), .ref (am 7), .ref (am 8), .int 0, .ref (am 9), .int 0, .ref (am 10), .int 0, .ref (am 11), .ref (am 12), .int 0, .int 0, .int 1, .null, .null, .int 0, .int 0, .int 0, .long 0, .int 0, .ref (am 13), .int 0, .int 0, .int 0, .ref (am 14), .ref (am 15), .ref (am 16), .ref (am 17), .int 0, .ref (am 18), .ref (am 19), .ref (am 20)])), ((am 9), .inl (k 0, 8, .inl (fun _ => 0)))]) sz) := by
  refine gx_metE (Qc := fun A => gx_Qi D (fun (r : Int32) (u : Unit) => r = -2) (fun (u : Unit) => ([] : va_W)) A) (y := yX7_send) (cc := cX7_send) (n := 4) (ret := (some .int)) (av := [.ref hm, .int av, .int bv]) (by decide) (Nat.le_of_ble_eq_true rfl) ?_
  intro p e s m below meth c A ls C hA hP hD hK hS hl
  obtain ⟨hx, hb, hr, hml, hown, hT, hlk, hin⟩ := id C
  have hown : s.vm.findClass RX7 = some m.cls := hown
  have hl : lv_has ls 4 [(0, .ref hm), (1, .int av), (2, .int bv)] := hl
  refine lv_aload_n hx hb dX7_send_0 rfl (lv_at hl 0 rfl) ?_
  refine lv_iload_n hx hb dX7_send_1 rfl (lv_at hl 1 rfl) ?_
  refine gx_pi hP hS (gx_runV (na := 1) (As := [.int av]) (rest := []) (ci := 5) C hl.1 hK (gx_subP (wc := ([(hm, .inr (5, [.ref (am 1), .ref (am 2), .ref (am 3), .ref (am 4), .ref (am 5), .ref (am 6), .ref (am 7), .ref (am 8), .int 0, .ref (am 9), .int 0, .ref (am 10), .int 0, .ref (am 11), .ref (am 12), .int 0, .int 0, .int 1, .null, .null, .int 0, .int 0, .int 0, .long 0, .int 0, .ref (am 13), .int 0, .int 0, .int 0, .ref (am 14), .ref (am 15), .ref (am 16), .ref (am 17), .int 0, .ref (am 18), .ref (am 19), .ref (am 20)]))] : va_W)) hP [0] rfl) ((hD.sub (ws' := ([(hm, .inr (5, [.ref (am 1), .ref (am 2), .ref (am 3), .ref (am 4), .ref (am 5), .ref (am 6), .ref (am 7), .ref (am 8), .int 0, .ref (am 9), .int 0, .ref (am 10), .int 0, .ref (am 11), .ref (am 12), .int 0, .int 0, .int 1, .null, .null, .int 0, .int 0, .int 0, .long 0, .int 0, .ref (am 13), .int 0, .int 0, .int 0, .ref (am 14), .ref (am 15), .ref (am 16), .ref (am 17), .int 0, .ref (am 18), .ref (am 19), .ref (am 20)]))] : va_W)) [0] (by decide) rfl).weaken (fun _ _ _ _ => trivial)) (m_isOne l D k hm am av _) gV_RX7_235 (by decide +kernel) rfl rfl ⟨Nat.le_of_ble_eq_true rfl, Nat.le_of_ble_eq_true rfl⟩ rfl rfl rfl rfl (Nat.le_of_ble_eq_true rfl) dX7_send_2 ⟨Nat.le_of_ble_eq_true rfl, Nat.le_of_ble_eq_true rfl⟩) (fun r_2 H locs c_1 hP hS => ?_)
  have c_1 : r_2 = 0 := c_1
  subst c_1
  refine lv_if_eq (tgt := 17) hx hb dX7_send_5 (by decide) (fun c_3 => ?_) (fun c_3 => absurd (by decide) c_3)
  refine lv_aload_n hx hb dX7_send_17 rfl (lv_at hl 0 rfl) ?_
  refine lv_bipush (v := (-2)) hx hb dX7_send_18 (by decide) ?_
  refine gx_ei (wc := ([(hm, .inr (5, [.ref (am 1), .ref (am 2), .ref (am 3), .ref (am 4), .ref (am 5), .ref (am 6), .ref (am 7), .ref (am 8), .int 0, .ref (am 9), .int 0, .ref (am 10), .int 0, .ref (am 11), .ref (am 12), .int 0, .int 0, .int 1, .null, .null, .int 0, .int 0, .int 0, .long 0, .int 0, .ref (am 13), .int 0, .int 0, .int 0, .ref (am 14), .ref (am 15), .ref (am 16), .ref (am 17), .int 0, .ref (am 18), .ref (am 19), .ref (am 20)])), ((am 9), .inl (k 0, 8, .inl (fun _ => 0)))] : va_W)) (wr := []) (isC := [0, 1]) (isR := []) hP hD hS hA rfl rfl (by decide) (by decide) (gx_runV (na := 1) (As := [.int (-2)]) (rest := []) (ci := 5) C hl.1 hK (gx_subP (wc := ([(hm, .inr (5, [.ref (am 1), .ref (am 2), .ref (am 3), .ref (am 4), .ref (am 5), .ref (am 6), .ref (am 7), .ref (am 8), .int 0, .ref (am 9), .int 0, .ref (am 10), .int 0, .ref (am 11), .ref (am 12), .int 0, .int 0, .int 1, .null, .null, .int 0, .int 0, .int 0, .long 0, .int 0, .ref (am 13), .int 0, .int 0, .int 0, .ref (am 14), .ref (am 15), .ref (am 16), .ref (am 17), .int 0, .ref (am 18), .ref (am 19), .ref (am 20)])), ((am 9), .inl (k 0, 8, .inl (fun _ => 0)))] : va_W)) hP [0, 1] rfl) ((hD.sub (ws' := ([(hm, .inr (5, [.ref (am 1), .ref (am 2), .ref (am 3), .ref (am 4), .ref (am 5), .ref (am 6), .ref (am 7), .ref (am 8), .int 0, .ref (am 9), .int 0, .ref (am 10), .int 0, .ref (am 11), .ref (am 12), .int 0, .int 0, .int 1, .null, .null, .int 0, .int 0, .int 0, .long 0, .int 0, .ref (am 13), .int 0, .int 0, .int 0, .ref (am 14), .ref (am 15), .ref (am 16), .ref (am 17), .int 0, .ref (am 18), .ref (am 19), .ref (am 20)])), ((am 9), .inl (k 0, 8, .inl (fun _ => 0)))] : va_W)) [0, 1] (by decide) rfl).weaken (fun _ _ _ _ => trivial)) (m_refuse2 l D k hm am .null .null 0 _) gV_RX7_95 (by decide +kernel) rfl rfl ⟨Nat.le_of_ble_eq_true rfl, Nat.le_of_ble_eq_true rfl⟩ rfl rfl rfl rfl (Nat.le_of_ble_eq_true rfl) dX7_send_20 ⟨Nat.le_of_ble_eq_true rfl, Nat.le_of_ble_eq_true rfl⟩) (fun r_6 u_4 H locs h_5 hP hD hS => ?_)
  have h_5 : r_6 = -2 := h_5
  have hP : va_P D gx_cl [] H := hP
  have hD : va_D A [] := hD
  have eh_5 := h_5
  subst eh_5
  exact gx_retI C (u := ()) gx_nil gx_noneD hS (rfl) dX7_send_23
set_option maxHeartbeats 4000000 in
set_option maxRecDepth 100000 in
theorem m_wander_pub (l : Launch) (D : va_G) (k : Nat → ClassId) (hm : Nat) (am : Nat → Nat) (av : Int32) (bv : Int32) (sz : Nat) : Met l yX7_wander (.code yX7_wander cX7_wander 6 (some .int) :: gx_T) ({ frames := 2, cells := 0, slots := 0, locals := 46 }) (gx_Pre D k [.ref hm, .int av, .int bv] ([(hm, .inr (5, [.ref (am 1), .ref (am 2), .ref (am 3), .ref (am 4), .ref (am 5), .ref (am 6), .ref (am 7), .ref (am 8), .int 0, .ref (am 9), .int 0, .ref (am 10), .int 0, .ref (am 11), .ref (am 12), .int 0, .int 0, .int 1, .null, .null, .int 0, .int 0, .int 0, .long 0, .int 0, .ref (am 13), .int 0, .int 0, .int 0, .ref (am 14), .ref (am 15), .ref (am 16), .ref (am 17), .int 0, .ref (am 18), .ref (am 19), .ref (am 20)])), ((am 9), .inl (k 0, 8, .inl (fun _ => 0)))]) sz) (gx_Qi D (fun (r : Int32) (u : Unit) => r = -2) (fun (u : Unit) => ([] : va_W)) (va_A ([(hm, .inr (5, [.ref (am 1), .ref (am 2), .ref (am 3), .ref (am 4), .ref (am 5), .ref (am 6), .ref (am 7), .ref (am 8), .int 0, .ref (am 9), .int 0, .ref (am 10), .int 0, .ref (am 11), .ref (am 12), .int 0, .int 0, .int 1, .null, .null, .int 0, .int 0, .int 0, .long 0, .int 0, .ref (am 13), .int 0, .int 0, .int 0, .ref (am 14), .ref (am 15), .ref (am 16), .ref (am 17), .int 0, .ref (am 18), .ref (am 19), .ref (am 20)])), ((am 9), .inl (k 0, 8, .inl (fun _ => 0)))]) sz)) 0 0 (va_A ([(hm, .inr (5, [.ref (am 1), .ref (am 2), .ref (am 3), .ref (am 4), .ref (am 5), .ref (am 6), .ref (am 7), .ref (am 8), .int 0, .ref (am 9), .int 0, .ref (am 10), .int 0, .ref (am 11), .ref (am 12), .int 0, .int 0, .int 1, .null, .null, .int 0, .int 0, .int 0, .long 0, .int 0, .ref (am 13), .int 0, .int 0, .int 0, .ref (am 14), .ref (am 15), .ref (am 16), .ref (am 17), .int 0, .ref (am 18), .ref (am 19), .ref (am 20)])), ((am 9), .inl (k 0, 8, .inl (fun _ => 0)))]) sz) := by
  refine gx_metE (Qc := fun A => gx_Qi D (fun (r : Int32) (u : Unit) => r = -2) (fun (u : Unit) => ([] : va_W)) A) (y := yX7_wander) (cc := cX7_wander) (n := 6) (ret := (some .int)) (av := [.ref hm, .int av, .int bv]) (by decide) (Nat.le_of_ble_eq_true rfl) ?_
  intro p e s m below meth c A ls C hA hP hD hK hS hl
  obtain ⟨hx, hb, hr, hml, hown, hT, hlk, hin⟩ := id C
  have hown : s.vm.findClass RX7 = some m.cls := hown
  have hl : lv_has ls 6 [(0, .ref hm), (1, .int av), (2, .int bv)] := hl
  refine lv_aload_n hx hb dX7_wander_0 rfl (lv_at hl 0 rfl) ?_
  refine lv_iload_n hx hb dX7_wander_1 rfl (lv_at hl 1 rfl) ?_
  refine gx_pi hP hS (gx_runV (na := 1) (As := [.int av]) (rest := []) (ci := 5) C hl.1 hK (gx_subP (wc := ([(hm, .inr (5, [.ref (am 1), .ref (am 2), .ref (am 3), .ref (am 4), .ref (am 5), .ref (am 6), .ref (am 7), .ref (am 8), .int 0, .ref (am 9), .int 0, .ref (am 10), .int 0, .ref (am 11), .ref (am 12), .int 0, .int 0, .int 1, .null, .null, .int 0, .int 0, .int 0, .long 0, .int 0, .ref (am 13), .int 0, .int 0, .int 0, .ref (am 14), .ref (am 15), .ref (am 16), .ref (am 17), .int 0, .ref (am 18), .ref (am 19), .ref (am 20)]))] : va_W)) hP [0] rfl) ((hD.sub (ws' := ([(hm, .inr (5, [.ref (am 1), .ref (am 2), .ref (am 3), .ref (am 4), .ref (am 5), .ref (am 6), .ref (am 7), .ref (am 8), .int 0, .ref (am 9), .int 0, .ref (am 10), .int 0, .ref (am 11), .ref (am 12), .int 0, .int 0, .int 1, .null, .null, .int 0, .int 0, .int 0, .long 0, .int 0, .ref (am 13), .int 0, .int 0, .int 0, .ref (am 14), .ref (am 15), .ref (am 16), .ref (am 17), .int 0, .ref (am 18), .ref (am 19), .ref (am 20)]))] : va_W)) [0] (by decide) rfl).weaken (fun _ _ _ _ => trivial)) (m_isOne l D k hm am av _) gV_RX7_235 (by decide +kernel) rfl rfl ⟨Nat.le_of_ble_eq_true rfl, Nat.le_of_ble_eq_true rfl⟩ rfl rfl rfl rfl (Nat.le_of_ble_eq_true rfl) dX7_wander_2 ⟨Nat.le_of_ble_eq_true rfl, Nat.le_of_ble_eq_true rfl⟩) (fun r_2 H locs c_1 hP hS => ?_)
  have c_1 : r_2 = 0 := c_1
  subst c_1
  refine lv_if_eq (tgt := 20) hx hb dX7_wander_5 (by decide) (fun c_3 => ?_) (fun c_3 => absurd (by decide) c_3)
  refine lv_aload_n hx hb dX7_wander_20 rfl (lv_at hl 0 rfl) ?_
  refine lv_bipush (v := (-2)) hx hb dX7_wander_21 (by decide) ?_
  refine gx_ei (wc := ([(hm, .inr (5, [.ref (am 1), .ref (am 2), .ref (am 3), .ref (am 4), .ref (am 5), .ref (am 6), .ref (am 7), .ref (am 8), .int 0, .ref (am 9), .int 0, .ref (am 10), .int 0, .ref (am 11), .ref (am 12), .int 0, .int 0, .int 1, .null, .null, .int 0, .int 0, .int 0, .long 0, .int 0, .ref (am 13), .int 0, .int 0, .int 0, .ref (am 14), .ref (am 15), .ref (am 16), .ref (am 17), .int 0, .ref (am 18), .ref (am 19), .ref (am 20)])), ((am 9), .inl (k 0, 8, .inl (fun _ => 0)))] : va_W)) (wr := []) (isC := [0, 1]) (isR := []) hP hD hS hA rfl rfl (by decide) (by decide) (gx_runV (na := 1) (As := [.int (-2)]) (rest := []) (ci := 5) C hl.1 hK (gx_subP (wc := ([(hm, .inr (5, [.ref (am 1), .ref (am 2), .ref (am 3), .ref (am 4), .ref (am 5), .ref (am 6), .ref (am 7), .ref (am 8), .int 0, .ref (am 9), .int 0, .ref (am 10), .int 0, .ref (am 11), .ref (am 12), .int 0, .int 0, .int 1, .null, .null, .int 0, .int 0, .int 0, .long 0, .int 0, .ref (am 13), .int 0, .int 0, .int 0, .ref (am 14), .ref (am 15), .ref (am 16), .ref (am 17), .int 0, .ref (am 18), .ref (am 19), .ref (am 20)])), ((am 9), .inl (k 0, 8, .inl (fun _ => 0)))] : va_W)) hP [0, 1] rfl) ((hD.sub (ws' := ([(hm, .inr (5, [.ref (am 1), .ref (am 2), .ref (am 3), .ref (am 4), .ref (am 5), .ref (am 6), .ref (am 7), .ref (am 8), .int 0, .ref (am 9), .int 0, .ref (am 10), .int 0, .ref (am 11), .ref (am 12), .int 0, .int 0, .int 1, .null, .null, .int 0, .int 0, .int 0, .long 0, .int 0, .ref (am 13), .int 0, .int 0, .int 0, .ref (am 14), .ref (am 15), .ref (am 16), .ref (am 17), .int 0, .ref (am 18), .ref (am 19), .ref (am 20)])), ((am 9), .inl (k 0, 8, .inl (fun _ => 0)))] : va_W)) [0, 1] (by decide) rfl).weaken (fun _ _ _ _ => trivial)) (m_refuse2 l D k hm am .null .null 0 _) gV_RX7_95 (by decide +kernel) rfl rfl ⟨Nat.le_of_ble_eq_true rfl, Nat.le_of_ble_eq_true rfl⟩ rfl rfl rfl rfl (Nat.le_of_ble_eq_true rfl) dX7_wander_23 ⟨Nat.le_of_ble_eq_true rfl, Nat.le_of_ble_eq_true rfl⟩) (fun r_6 u_4 H locs h_5 hP hD hS => ?_)
  have h_5 : r_6 = -2 := h_5
  have hP : va_P D gx_cl [] H := hP
  have hD : va_D A [] := hD
  have eh_5 := h_5
  subst eh_5
  exact gx_retI C (u := ()) gx_nil gx_noneD hS (rfl) dX7_wander_26
set_option maxHeartbeats 4000000 in
set_option maxRecDepth 100000 in
theorem m_year_pub (l : Launch) (D : va_G) (k : Nat → ClassId) (hm : Nat) (am : Nat → Nat) (sz : Nat) : Met l yX7_year (.code yX7_year cX7_year 1 (some .int) :: gx_T) ({ frames := 0, cells := 0, slots := 0, locals := 0 }) (gx_Pre D k [.ref hm] ([(hm, .inr (5, [.ref (am 1), .ref (am 2), .ref (am 3), .ref (am 4), .ref (am 5), .ref (am 6), .ref (am 7), .ref (am 8), .int 0, .ref (am 9), .int 0, .ref (am 10), .int 0, .ref (am 11), .ref (am 12), .int 0, .int 0, .int 1, .null, .null, .int 0, .int 0, .int 0, .long 0, .int 0, .ref (am 13), .int 0, .int 0, .int 0, .ref (am 14), .ref (am 15), .ref (am 16), .ref (am 17), .int 0, .ref (am 18), .ref (am 19), .ref (am 20)]))]) sz) (gx_Qi D (fun (r : Int32) (u : Unit) => r = 1) (fun (u : Unit) => ([] : va_W)) (va_A ([(hm, .inr (5, [.ref (am 1), .ref (am 2), .ref (am 3), .ref (am 4), .ref (am 5), .ref (am 6), .ref (am 7), .ref (am 8), .int 0, .ref (am 9), .int 0, .ref (am 10), .int 0, .ref (am 11), .ref (am 12), .int 0, .int 0, .int 1, .null, .null, .int 0, .int 0, .int 0, .long 0, .int 0, .ref (am 13), .int 0, .int 0, .int 0, .ref (am 14), .ref (am 15), .ref (am 16), .ref (am 17), .int 0, .ref (am 18), .ref (am 19), .ref (am 20)]))]) sz)) 0 0 (va_A ([(hm, .inr (5, [.ref (am 1), .ref (am 2), .ref (am 3), .ref (am 4), .ref (am 5), .ref (am 6), .ref (am 7), .ref (am 8), .int 0, .ref (am 9), .int 0, .ref (am 10), .int 0, .ref (am 11), .ref (am 12), .int 0, .int 0, .int 1, .null, .null, .int 0, .int 0, .int 0, .long 0, .int 0, .ref (am 13), .int 0, .int 0, .int 0, .ref (am 14), .ref (am 15), .ref (am 16), .ref (am 17), .int 0, .ref (am 18), .ref (am 19), .ref (am 20)]))]) sz) := by
  refine gx_metE (Qc := fun A => gx_Qi D (fun (r : Int32) (u : Unit) => r = 1) (fun (u : Unit) => ([] : va_W)) A) (y := yX7_year) (cc := cX7_year) (n := 1) (ret := (some .int)) (av := [.ref hm]) (by decide) (Nat.le_of_ble_eq_true rfl) ?_
  intro p e s m below meth c A ls C hA hP hD hK hS hl
  obtain ⟨hx, hb, hr, hml, hown, hT, hlk, hin⟩ := id C
  have hown : s.vm.findClass RX7 = some m.cls := hown
  have hl : lv_has ls 1 [(0, .ref hm)] := hl
  refine lv_aload_n hx hb dX7_year_0 rfl (lv_at hl 0 rfl) ?_
  refine lv_dup hx hb dX7_year_1 rfl ?_
  refine va_get (D := D) (ci := 5) (v := .int 0) (C := RX7) (T := TX7) (N := 37) hx hb hT iw_TX7 hown hK.1 hP 0 rfl rfl 15 (by decide) (hT _ wd_945) (fun _ h9 => h9) rfl dX7_year_2 ?_
  refine lv_iconst (v := 1) hx hb dX7_year_5 (by decide) ?_
  refine lv_iadd hx hb dX7_year_6 ?_
  refine gx_cst (v := 1) (by decide) ?_
  refine va_put (D := D) (ci := 5) (v := .int 1) (ty := .int) (C := RX7) (T := TX7) (N := 37) hx hb hT iw_TX7 tyX7 tyX7_ok nmX7 hown hK.1 hP hD hS 0 rfl rfl 15 (by decide) (hT _ wd_945) (fun _ h9 => h9) rfl (by decide +kernel) rfl rfl (Nat.le_of_ble_eq_true rfl) dX7_year_7 (fun H locs hP hD hS => ?_)
  have hP : va_P D gx_cl [(hm, .inr (5, [.ref (am 1), .ref (am 2), .ref (am 3), .ref (am 4), .ref (am 5), .ref (am 6), .ref (am 7), .ref (am 8), .int 0, .ref (am 9), .int 0, .ref (am 10), .int 0, .ref (am 11), .ref (am 12), .int 1, .int 0, .int 1, .null, .null, .int 0, .int 0, .int 0, .long 0, .int 0, .ref (am 13), .int 0, .int 0, .int 0, .ref (am 14), .ref (am 15), .ref (am 16), .ref (am 17), .int 0, .ref (am 18), .ref (am 19), .ref (am 20)]))] H := hP
  have hD : va_D A [(hm, .inr (5, [.ref (am 1), .ref (am 2), .ref (am 3), .ref (am 4), .ref (am 5), .ref (am 6), .ref (am 7), .ref (am 8), .int 0, .ref (am 9), .int 0, .ref (am 10), .int 0, .ref (am 11), .ref (am 12), .int 1, .int 0, .int 1, .null, .null, .int 0, .int 0, .int 0, .long 0, .int 0, .ref (am 13), .int 0, .int 0, .int 0, .ref (am 14), .ref (am 15), .ref (am 16), .ref (am 17), .int 0, .ref (am 18), .ref (am 19), .ref (am 20)]))] := hD
  refine lv_aload_n hx hb dX7_year_10 rfl (lv_at hl 0 rfl) ?_
  refine va_get (D := D) (ci := 5) (v := .int 1) (C := RX7) (T := TX7) (N := 37) hx hb hT iw_TX7 hown hK.1 hP 0 rfl rfl 15 (by decide) (hT _ wd_945) (fun _ h9 => h9) rfl dX7_year_11 ?_
  exact gx_retI C (u := ()) gx_nil gx_noneD hS (rfl) dX7_year_14
set_option maxHeartbeats 4000000 in
set_option maxRecDepth 100000 in
theorem m_fast_pub (l : Launch) (D : va_G) (k : Nat → ClassId) (hm : Nat) (am : Nat → Nat) (zv : Int32) (sz : Nat) : Met l yX7_fast (.code yX7_fast cX7_fast 4 (some .int) :: gx_T) ({ frames := 0, cells := 0, slots := 0, locals := 0 }) (gx_Pre D k [.ref hm, .int zv] ([(hm, .inr (5, [.ref (am 1), .ref (am 2), .ref (am 3), .ref (am 4), .ref (am 5), .ref (am 6), .ref (am 7), .ref (am 8), .int 0, .ref (am 9), .int 0, .ref (am 10), .int 0, .ref (am 11), .ref (am 12), .int 0, .int 0, .int 1, .null, .null, .int 0, .int 0, .int 0, .long 0, .int 0, .ref (am 13), .int 0, .int 0, .int 0, .ref (am 14), .ref (am 15), .ref (am 16), .ref (am 17), .int 0, .ref (am 18), .ref (am 19), .ref (am 20)]))]) sz) (gx_Pi (fun r => r = 0)) 0 0 gx_No := by
  refine gx_metP (y := yX7_fast) (cc := cX7_fast) (n := 4) (ret := (some .int)) (av := [.ref hm, .int zv]) (by decide) (Nat.le_of_ble_eq_true rfl) ?_
  intro p e s m below meth c ls C hP hD hK hS hl
  obtain ⟨hx, hb, hr, hml, hown, hT, hlk, hin⟩ := id C
  have hown : s.vm.findClass RX7 = some m.cls := hown
  have hl : lv_has ls 4 [(0, .ref hm), (1, .int zv)] := hl
  refine lv_iconst (v := 0) hx hb dX7_fast_0 (by decide) ?_
  refine lv_istore_n (lv' := [(2, .int 0), (0, .ref hm), (1, .int zv)]) hx hb dX7_fast_1 rfl hl (by decide) rfl (fun ls hl => ?_)
  refine lv_iconst (v := 0) hx hb dX7_fast_2 (by decide) ?_
  refine lv_istore_n (lv' := [(3, .int 0), (2, .int 0), (0, .ref hm), (1, .int zv)]) hx hb dX7_fast_3 rfl hl (by decide) rfl (fun ls hl => ?_)
  refine lv_iload_n hx hb dX7_fast_4 rfl (lv_at hl 0 rfl) ?_
  refine lv_aload_n hx hb dX7_fast_5 rfl (lv_at hl 2 rfl) ?_
  refine va_get (D := D) (ci := 5) (v := .int 0) (C := RX7) (T := TX7) (N := 37) hx hb hT iw_TX7 hown hK.1 hP 0 rfl rfl 12 (by decide) (hT _ wd_942) (fun _ h9 => h9) rfl dX7_fast_6 ?_
  refine lv_icmp_ge (tgt := 51) hx hb dX7_fast_9 (by decide) (fun c_1 => ?_) (fun c_1 => absurd (by decide) c_1)
  refine lv_iload_n hx hb dX7_fast_51 rfl (lv_at hl 1 rfl) ?_
  exact gx_retP C hS (rfl) dX7_fast_52
set_option maxHeartbeats 4000000 in
set_option maxRecDepth 100000 in
theorem m_seed_pub (l : Launch) (D : va_G) (k : Nat → ClassId) (hm : Nat) (am : Nat → Nat) (vv : Int32) (sz : Nat) : Met l yX7_seed (.code yX7_seed cX7_seed 3 (some .int) :: gx_T) ({ frames := 0, cells := 0, slots := 0, locals := 0 }) (gx_Pre D k [.ref hm, .int vv] ([(hm, .inr (5, [.ref (am 1), .ref (am 2), .ref (am 3), .ref (am 4), .ref (am 5), .ref (am 6), .ref (am 7), .ref (am 8), .int 0, .ref (am 9), .int 0, .ref (am 10), .int 0, .ref (am 11), .ref (am 12), .int 0, .int 0, .int 1, .null, .null, .int 0, .int 0, .int 0, .long 0, .int 0, .ref (am 13), .int 0, .int 0, .int 0, .ref (am 14), .ref (am 15), .ref (am 16), .ref (am 17), .int 0, .ref (am 18), .ref (am 19), .ref (am 20)]))]) sz) (gx_Qi D (fun (r : Int32) (u : Unit) => r = 1) (fun (u : Unit) => ([] : va_W)) (va_A ([(hm, .inr (5, [.ref (am 1), .ref (am 2), .ref (am 3), .ref (am 4), .ref (am 5), .ref (am 6), .ref (am 7), .ref (am 8), .int 0, .ref (am 9), .int 0, .ref (am 10), .int 0, .ref (am 11), .ref (am 12), .int 0, .int 0, .int 1, .null, .null, .int 0, .int 0, .int 0, .long 0, .int 0, .ref (am 13), .int 0, .int 0, .int 0, .ref (am 14), .ref (am 15), .ref (am 16), .ref (am 17), .int 0, .ref (am 18), .ref (am 19), .ref (am 20)]))]) sz)) 0 0 (va_A ([(hm, .inr (5, [.ref (am 1), .ref (am 2), .ref (am 3), .ref (am 4), .ref (am 5), .ref (am 6), .ref (am 7), .ref (am 8), .int 0, .ref (am 9), .int 0, .ref (am 10), .int 0, .ref (am 11), .ref (am 12), .int 0, .int 0, .int 1, .null, .null, .int 0, .int 0, .int 0, .long 0, .int 0, .ref (am 13), .int 0, .int 0, .int 0, .ref (am 14), .ref (am 15), .ref (am 16), .ref (am 17), .int 0, .ref (am 18), .ref (am 19), .ref (am 20)]))]) sz) := by
  refine gx_metE (Qc := fun A => gx_Qi D (fun (r : Int32) (u : Unit) => r = 1) (fun (u : Unit) => ([] : va_W)) A) (y := yX7_seed) (cc := cX7_seed) (n := 3) (ret := (some .int)) (av := [.ref hm, .int vv]) (by decide) (Nat.le_of_ble_eq_true rfl) ?_
  intro p e s m below meth c A ls C hA hP hD hK hS hl
  obtain ⟨hx, hb, hr, hml, hown, hT, hlk, hin⟩ := id C
  have hown : s.vm.findClass RX7 = some m.cls := hown
  have hl : lv_has ls 3 [(0, .ref hm), (1, .int vv)] := hl
  refine lv_aload_n hx hb dX7_seed_0 rfl (lv_at hl 0 rfl) ?_
  refine va_get (D := D) (ci := 5) (v := .int 1) (C := RX7) (T := TX7) (N := 37) hx hb hT iw_TX7 hown hK.1 hP 0 rfl rfl 17 (by decide) (hT _ wd_947) (fun _ h9 => h9) rfl dX7_seed_1 ?_
  refine lv_istore_n (lv' := [(2, .int 1), (0, .ref hm), (1, .int vv)]) hx hb dX7_seed_4 rfl hl (by decide) rfl (fun ls hl => ?_)
  refine lv_aload_n hx hb dX7_seed_5 rfl (lv_at hl 1 rfl) ?_
  refine lv_iload_n hx hb dX7_seed_6 rfl (lv_at hl 2 rfl) ?_
  refine va_put (D := D) (ci := 5) (v := .int vv) (ty := .int) (C := RX7) (T := TX7) (N := 37) hx hb hT iw_TX7 tyX7 tyX7_ok nmX7 hown hK.1 hP hD hS 0 rfl rfl 17 (by decide) (hT _ wd_947) (fun _ h9 => h9) rfl (by decide +kernel) rfl rfl (Nat.le_of_ble_eq_true rfl) dX7_seed_7 (fun H locs hP hD hS => ?_)
  have hP : va_P D gx_cl [(hm, .inr (5, [.ref (am 1), .ref (am 2), .ref (am 3), .ref (am 4), .ref (am 5), .ref (am 6), .ref (am 7), .ref (am 8), .int 0, .ref (am 9), .int 0, .ref (am 10), .int 0, .ref (am 11), .ref (am 12), .int 0, .int 0, .int vv, .null, .null, .int 0, .int 0, .int 0, .long 0, .int 0, .ref (am 13), .int 0, .int 0, .int 0, .ref (am 14), .ref (am 15), .ref (am 16), .ref (am 17), .int 0, .ref (am 18), .ref (am 19), .ref (am 20)]))] H := hP
  have hD : va_D A [(hm, .inr (5, [.ref (am 1), .ref (am 2), .ref (am 3), .ref (am 4), .ref (am 5), .ref (am 6), .ref (am 7), .ref (am 8), .int 0, .ref (am 9), .int 0, .ref (am 10), .int 0, .ref (am 11), .ref (am 12), .int 0, .int 0, .int vv, .null, .null, .int 0, .int 0, .int 0, .long 0, .int 0, .ref (am 13), .int 0, .int 0, .int 0, .ref (am 14), .ref (am 15), .ref (am 16), .ref (am 17), .int 0, .ref (am 18), .ref (am 19), .ref (am 20)]))] := hD
  refine lv_iload_n hx hb dX7_seed_10 rfl (lv_at hl 0 rfl) ?_
  exact gx_retI C (u := ()) gx_nil gx_noneD hS (rfl) dX7_seed_11
set_option maxHeartbeats 4000000 in
set_option maxRecDepth 100000 in
theorem m_back_pub (l : Launch) (D : va_G) (k : Nat → ClassId) (hm : Nat) (am : Nat → Nat) (sz : Nat) : Met l yX7_back (.code yX7_back cX7_back 1 (some .int) :: gx_T) ({ frames := 1, cells := 0, slots := 0, locals := 21 }) (gx_Pre D k [.ref hm] ([(hm, .inr (5, [.ref (am 1), .ref (am 2), .ref (am 3), .ref (am 4), .ref (am 5), .ref (am 6), .ref (am 7), .ref (am 8), .int 0, .ref (am 9), .int 0, .ref (am 10), .int 0, .ref (am 11), .ref (am 12), .int 0, .int 0, .int 1, .null, .null, .int 0, .int 0, .int 0, .long 0, .int 0, .ref (am 13), .int 0, .int 0, .int 0, .ref (am 14), .ref (am 15), .ref (am 16), .ref (am 17), .int 0, .ref (am 18), .ref (am 19), .ref (am 20)])), ((am 9), .inl (k 0, 8, .inl (fun _ => 0)))]) sz) (gx_Qi D (fun (r : Int32) (u : Unit) => r = -5) (fun (u : Unit) => ([] : va_W)) (va_A ([(hm, .inr (5, [.ref (am 1), .ref (am 2), .ref (am 3), .ref (am 4), .ref (am 5), .ref (am 6), .ref (am 7), .ref (am 8), .int 0, .ref (am 9), .int 0, .ref (am 10), .int 0, .ref (am 11), .ref (am 12), .int 0, .int 0, .int 1, .null, .null, .int 0, .int 0, .int 0, .long 0, .int 0, .ref (am 13), .int 0, .int 0, .int 0, .ref (am 14), .ref (am 15), .ref (am 16), .ref (am 17), .int 0, .ref (am 18), .ref (am 19), .ref (am 20)])), ((am 9), .inl (k 0, 8, .inl (fun _ => 0)))]) sz)) 0 0 (va_A ([(hm, .inr (5, [.ref (am 1), .ref (am 2), .ref (am 3), .ref (am 4), .ref (am 5), .ref (am 6), .ref (am 7), .ref (am 8), .int 0, .ref (am 9), .int 0, .ref (am 10), .int 0, .ref (am 11), .ref (am 12), .int 0, .int 0, .int 1, .null, .null, .int 0, .int 0, .int 0, .long 0, .int 0, .ref (am 13), .int 0, .int 0, .int 0, .ref (am 14), .ref (am 15), .ref (am 16), .ref (am 17), .int 0, .ref (am 18), .ref (am 19), .ref (am 20)])), ((am 9), .inl (k 0, 8, .inl (fun _ => 0)))]) sz) := by
  refine gx_metE (Qc := fun A => gx_Qi D (fun (r : Int32) (u : Unit) => r = -5) (fun (u : Unit) => ([] : va_W)) A) (y := yX7_back) (cc := cX7_back) (n := 1) (ret := (some .int)) (av := [.ref hm]) (by decide) (Nat.le_of_ble_eq_true rfl) ?_
  intro p e s m below meth c A ls C hA hP hD hK hS hl
  obtain ⟨hx, hb, hr, hml, hown, hT, hlk, hin⟩ := id C
  have hown : s.vm.findClass RX7 = some m.cls := hown
  have hl : lv_has ls 1 [(0, .ref hm)] := hl
  refine lv_aload_n hx hb dX7_back_0 rfl (lv_at hl 0 rfl) ?_
  refine va_get (D := D) (ci := 5) (v := .null) (C := RX7) (T := TX7) (N := 37) hx hb hT iw_TX7 hown hK.1 hP 0 rfl rfl 18 (by decide) (hT _ wd_948) (fun _ h9 => h9) rfl dX7_back_1 ?_
  refine lv_ifnonnullN hx hb dX7_back_4 ?_
  refine lv_aload_n hx hb dX7_back_7 rfl (lv_at hl 0 rfl) ?_
  refine lv_bipush (v := (-5)) hx hb dX7_back_8 (by decide) ?_
  refine gx_ei (wc := ([(hm, .inr (5, [.ref (am 1), .ref (am 2), .ref (am 3), .ref (am 4), .ref (am 5), .ref (am 6), .ref (am 7), .ref (am 8), .int 0, .ref (am 9), .int 0, .ref (am 10), .int 0, .ref (am 11), .ref (am 12), .int 0, .int 0, .int 1, .null, .null, .int 0, .int 0, .int 0, .long 0, .int 0, .ref (am 13), .int 0, .int 0, .int 0, .ref (am 14), .ref (am 15), .ref (am 16), .ref (am 17), .int 0, .ref (am 18), .ref (am 19), .ref (am 20)])), ((am 9), .inl (k 0, 8, .inl (fun _ => 0)))] : va_W)) (wr := []) (isC := [0, 1]) (isR := []) hP hD hS hA rfl rfl (by decide) (by decide) (gx_runV (na := 1) (As := [.int (-5)]) (rest := []) (ci := 5) C hl.1 hK (gx_subP (wc := ([(hm, .inr (5, [.ref (am 1), .ref (am 2), .ref (am 3), .ref (am 4), .ref (am 5), .ref (am 6), .ref (am 7), .ref (am 8), .int 0, .ref (am 9), .int 0, .ref (am 10), .int 0, .ref (am 11), .ref (am 12), .int 0, .int 0, .int 1, .null, .null, .int 0, .int 0, .int 0, .long 0, .int 0, .ref (am 13), .int 0, .int 0, .int 0, .ref (am 14), .ref (am 15), .ref (am 16), .ref (am 17), .int 0, .ref (am 18), .ref (am 19), .ref (am 20)])), ((am 9), .inl (k 0, 8, .inl (fun _ => 0)))] : va_W)) hP [0, 1] rfl) ((hD.sub (ws' := ([(hm, .inr (5, [.ref (am 1), .ref (am 2), .ref (am 3), .ref (am 4), .ref (am 5), .ref (am 6), .ref (am 7), .ref (am 8), .int 0, .ref (am 9), .int 0, .ref (am 10), .int 0, .ref (am 11), .ref (am 12), .int 0, .int 0, .int 1, .null, .null, .int 0, .int 0, .int 0, .long 0, .int 0, .ref (am 13), .int 0, .int 0, .int 0, .ref (am 14), .ref (am 15), .ref (am 16), .ref (am 17), .int 0, .ref (am 18), .ref (am 19), .ref (am 20)])), ((am 9), .inl (k 0, 8, .inl (fun _ => 0)))] : va_W)) [0, 1] (by decide) rfl).weaken (fun _ _ _ _ => trivial)) (m_refuse5 l D k hm am .null .null 0 _) gV_RX7_95 (by decide +kernel) rfl rfl ⟨Nat.le_of_ble_eq_true rfl, Nat.le_of_ble_eq_true rfl⟩ rfl rfl rfl rfl (Nat.le_of_ble_eq_true rfl) dX7_back_10 ⟨Nat.le_of_ble_eq_true rfl, Nat.le_of_ble_eq_true rfl⟩) (fun r_3 u_1 H locs h_2 hP hD hS => ?_)
  have h_2 : r_3 = -5 := h_2
  have hP : va_P D gx_cl [] H := hP
  have hD : va_D A [] := hD
  have eh_2 := h_2
  subst eh_2
  exact gx_retI C (u := ()) gx_nil gx_noneD hS (rfl) dX7_back_13
set_option maxHeartbeats 4000000 in
set_option maxRecDepth 100000 in
theorem m_status_pub (l : Launch) (D : va_G) (k : Nat → ClassId) (hm : Nat) (am : Nat → Nat) (wv : Int32) (sz : Nat) : Met l yX7_status (.code yX7_status cX7_status 4 (some .int) :: gx_T) ({ frames := 1, cells := 0, slots := 0, locals := 25 }) (gx_Pre D k [.ref hm, .int wv] ([(hm, .inr (5, [.ref (am 1), .ref (am 2), .ref (am 3), .ref (am 4), .ref (am 5), .ref (am 6), .ref (am 7), .ref (am 8), .int 0, .ref (am 9), .int 0, .ref (am 10), .int 0, .ref (am 11), .ref (am 12), .int 0, .int 0, .int 1, .null, .null, .int 0, .int 0, .int 0, .long 0, .int 0, .ref (am 13), .int 0, .int 0, .int 0, .ref (am 14), .ref (am 15), .ref (am 16), .ref (am 17), .int 0, .ref (am 18), .ref (am 19), .ref (am 20)])), ((am 9), .inl (k 0, 8, .inl (fun _ => 0))), ((am 1), .inl (k 0, 8, .inl (fun _ => 0)))]) sz) (gx_Pi (fun r => r = (gs_status wv))) 0 0 gx_No := by
  refine gx_metP (y := yX7_status) (cc := cX7_status) (n := 4) (ret := (some .int)) (av := [.ref hm, .int wv]) (by decide) (Nat.le_of_ble_eq_true rfl) ?_
  intro p e s m below meth c ls C hP hD hK hS hl
  obtain ⟨hx, hb, hr, hml, hown, hT, hlk, hin⟩ := id C
  have hown : s.vm.findClass RX7 = some m.cls := hown
  have hl : lv_has ls 4 [(0, .ref hm), (1, .int wv)] := hl
  refine lv_iconst (v := 0) hx hb dX7_status_0 (by decide) ?_
  refine lv_istore_n (lv' := [(2, .int 0), (0, .ref hm), (1, .int wv)]) hx hb dX7_status_1 rfl hl (by decide) rfl (fun ls hl => ?_)
  refine lv_iload_n hx hb dX7_status_2 rfl (lv_at hl 2 rfl) ?_
  by_cases w_1 : wv = 0
  · subst w_1
    refine lv_tableIn (off := 49) (tgt := 52) hx hb dX7_status_3 (by decide) (by decide) (by decide) (by decide) ?_
    refine lv_aload_n hx hb dX7_status_52 rfl (lv_at hl 1 rfl) ?_
    refine va_get (D := D) (ci := 5) (v := .int 0) (C := RX7) (T := TX7) (N := 37) hx hb hT iw_TX7 hown hK.1 hP 0 rfl rfl 10 (by decide) (hT _ wd_940) (fun _ h9 => h9) rfl dX7_status_53 ?_
    exact gx_retP C hS (by decide) dX7_status_56
  by_cases w_2 : wv = 1
  · subst w_2
    refine lv_tableIn (off := 54) (tgt := 57) hx hb dX7_status_3 (by decide) (by decide) (by decide) (by decide) ?_
    refine lv_aload_n hx hb dX7_status_57 rfl (lv_at hl 1 rfl) ?_
    refine va_get (D := D) (ci := 5) (v := .int 0) (C := RX7) (T := TX7) (N := 37) hx hb hT iw_TX7 hown hK.1 hP 0 rfl rfl 12 (by decide) (hT _ wd_942) (fun _ h9 => h9) rfl dX7_status_58 ?_
    exact gx_retP C hS (by decide) dX7_status_61
  by_cases w_3 : wv = 2
  · subst w_3
    refine lv_tableIn (off := 59) (tgt := 62) hx hb dX7_status_3 (by decide) (by decide) (by decide) (by decide) ?_
    refine lv_aload_n hx hb dX7_status_62 rfl (lv_at hl 1 rfl) ?_
    refine va_get (D := D) (ci := 5) (v := .int 0) (C := RX7) (T := TX7) (N := 37) hx hb hT iw_TX7 hown hK.1 hP 0 rfl rfl 15 (by decide) (hT _ wd_945) (fun _ h9 => h9) rfl dX7_status_63 ?_
    exact gx_retP C hS (by decide) dX7_status_66
  by_cases w_4 : wv = 3
  · subst w_4
    refine lv_tableIn (off := 64) (tgt := 67) hx hb dX7_status_3 (by decide) (by decide) (by decide) (by decide) ?_
    refine lv_aload_n hx hb dX7_status_67 rfl (lv_at hl 1 rfl) ?_
    refine va_get (D := D) (ci := 5) (v := .int 0) (C := RX7) (T := TX7) (N := 37) hx hb hT iw_TX7 hown hK.1 hP 0 rfl rfl 16 (by decide) (hT _ wd_946) (fun _ h9 => h9) rfl dX7_status_68 ?_
    exact gx_retP C hS (by decide) dX7_status_71
  by_cases w_5 : wv = 4
  · subst w_5
    refine lv_tableIn (off := 69) (tgt := 72) hx hb dX7_status_3 (by decide) (by decide) (by decide) (by decide) ?_
    refine lv_iconst (v := 0) hx hb dX7_status_72 (by decide) ?_
    refine lv_istore_n (lv' := [(3, .int 0), (2, .int 0), (0, .ref hm), (1, .int 4)]) hx hb dX7_status_73 rfl hl (by decide) rfl (fun ls hl => ?_)
    refine lv_iload_n hx hb dX7_status_74 rfl (lv_at hl 0 rfl) ?_
    refine lv_aload_n hx hb dX7_status_75 rfl (lv_at hl 2 rfl) ?_
    refine va_get (D := D) (ci := 5) (v := .int 0) (C := RX7) (T := TX7) (N := 37) hx hb hT iw_TX7 hown hK.1 hP 0 rfl rfl 12 (by decide) (hT _ wd_942) (fun _ h9 => h9) rfl dX7_status_76 ?_
    refine lv_icmp_ge (tgt := 99) hx hb dX7_status_79 (by decide) (fun c_6 => ?_) (fun c_6 => absurd (by decide) c_6)
    refine lv_iload_n hx hb dX7_status_99 rfl (lv_at hl 1 rfl) ?_
    exact gx_retP C hS (by decide) dX7_status_100
  by_cases w_7 : wv = 5
  · subst w_7
    refine lv_tableIn (off := 98) (tgt := 101) hx hb dX7_status_3 (by decide) (by decide) (by decide) (by decide) ?_
    refine lv_aload_n hx hb dX7_status_101 rfl (lv_at hl 1 rfl) ?_
    refine va_get (D := D) (ci := 5) (v := .int 0) (C := RX7) (T := TX7) (N := 37) hx hb hT iw_TX7 hown hK.1 hP 0 rfl rfl 8 (by decide) (hT _ wd_938) (fun _ h9 => h9) rfl dX7_status_102 ?_
    exact gx_retP C hS (by decide) dX7_status_105
  by_cases w_8 : wv = 6
  · subst w_8
    refine lv_tableIn (off := 103) (tgt := 106) hx hb dX7_status_3 (by decide) (by decide) (by decide) (by decide) ?_
    refine lv_aload_n hx hb dX7_status_106 rfl (lv_at hl 1 rfl) ?_
    refine va_get (D := D) (ci := 5) (v := .int 1) (C := RX7) (T := TX7) (N := 37) hx hb hT iw_TX7 hown hK.1 hP 0 rfl rfl 17 (by decide) (hT _ wd_947) (fun _ h9 => h9) rfl dX7_status_107 ?_
    exact gx_retP C hS (by decide) dX7_status_110
  by_cases w_9 : wv = 7
  · subst w_9
    refine lv_tableIn (off := 108) (tgt := 111) hx hb dX7_status_3 (by decide) (by decide) (by decide) (by decide) ?_
    refine lv_iconst (v := 0) hx hb dX7_status_111 (by decide) ?_
    refine lv_istore_n (lv' := [(3, .int 0), (2, .int 0), (0, .ref hm), (1, .int 7)]) hx hb dX7_status_112 rfl hl (by decide) rfl (fun ls hl => ?_)
    refine lv_iload_n hx hb dX7_status_113 rfl (lv_at hl 0 rfl) ?_
    refine lv_bipush (v := 8) hx hb dX7_status_114 (by decide) ?_
    refine lv_icmp_ge (tgt := 142) hx hb dX7_status_116 (by decide) (fun c_10 => absurd c_10 (by decide)) (fun c_10 => ?_)
    refine lv_iload_n hx hb dX7_status_119 rfl (lv_at hl 1 rfl) ?_
    refine lv_aload_n hx hb dX7_status_120 rfl (lv_at hl 2 rfl) ?_
    refine va_get (D := D) (ci := 5) (v := .ref (am 1)) (C := RX7) (T := TX7) (N := 37) hx hb hT iw_TX7 hown hK.1 hP 0 rfl rfl 0 (by decide) (hT _ wd_930) (fun _ h9 => h9) rfl dX7_status_121 ?_
    refine lv_iload_n hx hb dX7_status_124 rfl (lv_at hl 0 rfl) ?_
    refine va_iald hx hb hK.1 hP 2 0 rfl rfl (gx_vin rfl) dX7_status_125 ?_
    refine gx_cst (v := 0) (rfl) ?_
    refine lv_if_eq (tgt := 133) hx hb dX7_status_126 (by decide) (fun c_11 => ?_) (fun c_11 => absurd (by decide) c_11)
    refine lv_iconst (v := 0) hx hb dX7_status_133 (by decide) ?_
    refine lv_iadd hx hb dX7_status_134 ?_
    refine gx_cst (v := 0) (by decide) ?_
    refine lv_istore_n (lv' := [(2, .int 0), (3, .int 0), (0, .ref hm), (1, .int 7)]) hx hb dX7_status_135 rfl hl (by decide) rfl (fun ls hl => ?_)
    refine lv_iinc (v := 1) (lv' := [(3, .int 1), (2, .int 0), (0, .ref hm), (1, .int 7)]) hx hb dX7_status_136 hl (k := 1) rfl (by decide) (by decide) rfl (fun ls hl => ?_)
    refine lv_goto (tgt := 113) hx hb dX7_status_139 (by decide) ?_
    refine lv_iload_n hx hb dX7_status_113 rfl (lv_at hl 0 rfl) ?_
    refine lv_bipush (v := 8) hx hb dX7_status_114 (by decide) ?_
    refine lv_icmp_ge (tgt := 142) hx hb dX7_status_116 (by decide) (fun c_12 => absurd c_12 (by decide)) (fun c_12 => ?_)
    refine lv_iload_n hx hb dX7_status_119 rfl (lv_at hl 1 rfl) ?_
    refine lv_aload_n hx hb dX7_status_120 rfl (lv_at hl 2 rfl) ?_
    refine va_get (D := D) (ci := 5) (v := .ref (am 1)) (C := RX7) (T := TX7) (N := 37) hx hb hT iw_TX7 hown hK.1 hP 0 rfl rfl 0 (by decide) (hT _ wd_930) (fun _ h9 => h9) rfl dX7_status_121 ?_
    refine lv_iload_n hx hb dX7_status_124 rfl (lv_at hl 0 rfl) ?_
    refine va_iald hx hb hK.1 hP 2 0 rfl rfl (gx_vin rfl) dX7_status_125 ?_
    refine gx_cst (v := 0) (rfl) ?_
    refine lv_if_eq (tgt := 133) hx hb dX7_status_126 (by decide) (fun c_13 => ?_) (fun c_13 => absurd (by decide) c_13)
    refine lv_iconst (v := 0) hx hb dX7_status_133 (by decide) ?_
    refine lv_iadd hx hb dX7_status_134 ?_
    refine gx_cst (v := 0) (by decide) ?_
    refine lv_istore_n (lv' := [(2, .int 0), (3, .int 1), (0, .ref hm), (1, .int 7)]) hx hb dX7_status_135 rfl hl (by decide) rfl (fun ls hl => ?_)
    refine lv_iinc (v := 2) (lv' := [(3, .int 2), (2, .int 0), (0, .ref hm), (1, .int 7)]) hx hb dX7_status_136 hl (k := 1) rfl (by decide) (by decide) rfl (fun ls hl => ?_)
    refine lv_goto (tgt := 113) hx hb dX7_status_139 (by decide) ?_
    refine lv_iload_n hx hb dX7_status_113 rfl (lv_at hl 0 rfl) ?_
    refine lv_bipush (v := 8) hx hb dX7_status_114 (by decide) ?_
    refine lv_icmp_ge (tgt := 142) hx hb dX7_status_116 (by decide) (fun c_14 => absurd c_14 (by decide)) (fun c_14 => ?_)
    refine lv_iload_n hx hb dX7_status_119 rfl (lv_at hl 1 rfl) ?_
    refine lv_aload_n hx hb dX7_status_120 rfl (lv_at hl 2 rfl) ?_
    refine va_get (D := D) (ci := 5) (v := .ref (am 1)) (C := RX7) (T := TX7) (N := 37) hx hb hT iw_TX7 hown hK.1 hP 0 rfl rfl 0 (by decide) (hT _ wd_930) (fun _ h9 => h9) rfl dX7_status_121 ?_
    refine lv_iload_n hx hb dX7_status_124 rfl (lv_at hl 0 rfl) ?_
    refine va_iald hx hb hK.1 hP 2 0 rfl rfl (gx_vin rfl) dX7_status_125 ?_
    refine gx_cst (v := 0) (rfl) ?_
    refine lv_if_eq (tgt := 133) hx hb dX7_status_126 (by decide) (fun c_15 => ?_) (fun c_15 => absurd (by decide) c_15)
    refine lv_iconst (v := 0) hx hb dX7_status_133 (by decide) ?_
    refine lv_iadd hx hb dX7_status_134 ?_
    refine gx_cst (v := 0) (by decide) ?_
    refine lv_istore_n (lv' := [(2, .int 0), (3, .int 2), (0, .ref hm), (1, .int 7)]) hx hb dX7_status_135 rfl hl (by decide) rfl (fun ls hl => ?_)
    refine lv_iinc (v := 3) (lv' := [(3, .int 3), (2, .int 0), (0, .ref hm), (1, .int 7)]) hx hb dX7_status_136 hl (k := 1) rfl (by decide) (by decide) rfl (fun ls hl => ?_)
    refine lv_goto (tgt := 113) hx hb dX7_status_139 (by decide) ?_
    refine lv_iload_n hx hb dX7_status_113 rfl (lv_at hl 0 rfl) ?_
    refine lv_bipush (v := 8) hx hb dX7_status_114 (by decide) ?_
    refine lv_icmp_ge (tgt := 142) hx hb dX7_status_116 (by decide) (fun c_16 => absurd c_16 (by decide)) (fun c_16 => ?_)
    refine lv_iload_n hx hb dX7_status_119 rfl (lv_at hl 1 rfl) ?_
    refine lv_aload_n hx hb dX7_status_120 rfl (lv_at hl 2 rfl) ?_
    refine va_get (D := D) (ci := 5) (v := .ref (am 1)) (C := RX7) (T := TX7) (N := 37) hx hb hT iw_TX7 hown hK.1 hP 0 rfl rfl 0 (by decide) (hT _ wd_930) (fun _ h9 => h9) rfl dX7_status_121 ?_
    refine lv_iload_n hx hb dX7_status_124 rfl (lv_at hl 0 rfl) ?_
    refine va_iald hx hb hK.1 hP 2 0 rfl rfl (gx_vin rfl) dX7_status_125 ?_
    refine gx_cst (v := 0) (rfl) ?_
    refine lv_if_eq (tgt := 133) hx hb dX7_status_126 (by decide) (fun c_17 => ?_) (fun c_17 => absurd (by decide) c_17)
    refine lv_iconst (v := 0) hx hb dX7_status_133 (by decide) ?_
    refine lv_iadd hx hb dX7_status_134 ?_
    refine gx_cst (v := 0) (by decide) ?_
    refine lv_istore_n (lv' := [(2, .int 0), (3, .int 3), (0, .ref hm), (1, .int 7)]) hx hb dX7_status_135 rfl hl (by decide) rfl (fun ls hl => ?_)
    refine lv_iinc (v := 4) (lv' := [(3, .int 4), (2, .int 0), (0, .ref hm), (1, .int 7)]) hx hb dX7_status_136 hl (k := 1) rfl (by decide) (by decide) rfl (fun ls hl => ?_)
    refine lv_goto (tgt := 113) hx hb dX7_status_139 (by decide) ?_
    refine lv_iload_n hx hb dX7_status_113 rfl (lv_at hl 0 rfl) ?_
    refine lv_bipush (v := 8) hx hb dX7_status_114 (by decide) ?_
    refine lv_icmp_ge (tgt := 142) hx hb dX7_status_116 (by decide) (fun c_18 => absurd c_18 (by decide)) (fun c_18 => ?_)
    refine lv_iload_n hx hb dX7_status_119 rfl (lv_at hl 1 rfl) ?_
    refine lv_aload_n hx hb dX7_status_120 rfl (lv_at hl 2 rfl) ?_
    refine va_get (D := D) (ci := 5) (v := .ref (am 1)) (C := RX7) (T := TX7) (N := 37) hx hb hT iw_TX7 hown hK.1 hP 0 rfl rfl 0 (by decide) (hT _ wd_930) (fun _ h9 => h9) rfl dX7_status_121 ?_
    refine lv_iload_n hx hb dX7_status_124 rfl (lv_at hl 0 rfl) ?_
    refine va_iald hx hb hK.1 hP 2 0 rfl rfl (gx_vin rfl) dX7_status_125 ?_
    refine gx_cst (v := 0) (rfl) ?_
    refine lv_if_eq (tgt := 133) hx hb dX7_status_126 (by decide) (fun c_19 => ?_) (fun c_19 => absurd (by decide) c_19)
    refine lv_iconst (v := 0) hx hb dX7_status_133 (by decide) ?_
    refine lv_iadd hx hb dX7_status_134 ?_
    refine gx_cst (v := 0) (by decide) ?_
    refine lv_istore_n (lv' := [(2, .int 0), (3, .int 4), (0, .ref hm), (1, .int 7)]) hx hb dX7_status_135 rfl hl (by decide) rfl (fun ls hl => ?_)
    refine lv_iinc (v := 5) (lv' := [(3, .int 5), (2, .int 0), (0, .ref hm), (1, .int 7)]) hx hb dX7_status_136 hl (k := 1) rfl (by decide) (by decide) rfl (fun ls hl => ?_)
    refine lv_goto (tgt := 113) hx hb dX7_status_139 (by decide) ?_
    refine lv_iload_n hx hb dX7_status_113 rfl (lv_at hl 0 rfl) ?_
    refine lv_bipush (v := 8) hx hb dX7_status_114 (by decide) ?_
    refine lv_icmp_ge (tgt := 142) hx hb dX7_status_116 (by decide) (fun c_20 => absurd c_20 (by decide)) (fun c_20 => ?_)
    refine lv_iload_n hx hb dX7_status_119 rfl (lv_at hl 1 rfl) ?_
    refine lv_aload_n hx hb dX7_status_120 rfl (lv_at hl 2 rfl) ?_
    refine va_get (D := D) (ci := 5) (v := .ref (am 1)) (C := RX7) (T := TX7) (N := 37) hx hb hT iw_TX7 hown hK.1 hP 0 rfl rfl 0 (by decide) (hT _ wd_930) (fun _ h9 => h9) rfl dX7_status_121 ?_
    refine lv_iload_n hx hb dX7_status_124 rfl (lv_at hl 0 rfl) ?_
    refine va_iald hx hb hK.1 hP 2 0 rfl rfl (gx_vin rfl) dX7_status_125 ?_
    refine gx_cst (v := 0) (rfl) ?_
    refine lv_if_eq (tgt := 133) hx hb dX7_status_126 (by decide) (fun c_21 => ?_) (fun c_21 => absurd (by decide) c_21)
    refine lv_iconst (v := 0) hx hb dX7_status_133 (by decide) ?_
    refine lv_iadd hx hb dX7_status_134 ?_
    refine gx_cst (v := 0) (by decide) ?_
    refine lv_istore_n (lv' := [(2, .int 0), (3, .int 5), (0, .ref hm), (1, .int 7)]) hx hb dX7_status_135 rfl hl (by decide) rfl (fun ls hl => ?_)
    refine lv_iinc (v := 6) (lv' := [(3, .int 6), (2, .int 0), (0, .ref hm), (1, .int 7)]) hx hb dX7_status_136 hl (k := 1) rfl (by decide) (by decide) rfl (fun ls hl => ?_)
    refine lv_goto (tgt := 113) hx hb dX7_status_139 (by decide) ?_
    refine lv_iload_n hx hb dX7_status_113 rfl (lv_at hl 0 rfl) ?_
    refine lv_bipush (v := 8) hx hb dX7_status_114 (by decide) ?_
    refine lv_icmp_ge (tgt := 142) hx hb dX7_status_116 (by decide) (fun c_22 => absurd c_22 (by decide)) (fun c_22 => ?_)
    refine lv_iload_n hx hb dX7_status_119 rfl (lv_at hl 1 rfl) ?_
    refine lv_aload_n hx hb dX7_status_120 rfl (lv_at hl 2 rfl) ?_
    refine va_get (D := D) (ci := 5) (v := .ref (am 1)) (C := RX7) (T := TX7) (N := 37) hx hb hT iw_TX7 hown hK.1 hP 0 rfl rfl 0 (by decide) (hT _ wd_930) (fun _ h9 => h9) rfl dX7_status_121 ?_
    refine lv_iload_n hx hb dX7_status_124 rfl (lv_at hl 0 rfl) ?_
    refine va_iald hx hb hK.1 hP 2 0 rfl rfl (gx_vin rfl) dX7_status_125 ?_
    refine gx_cst (v := 0) (rfl) ?_
    refine lv_if_eq (tgt := 133) hx hb dX7_status_126 (by decide) (fun c_23 => ?_) (fun c_23 => absurd (by decide) c_23)
    refine lv_iconst (v := 0) hx hb dX7_status_133 (by decide) ?_
    refine lv_iadd hx hb dX7_status_134 ?_
    refine gx_cst (v := 0) (by decide) ?_
    refine lv_istore_n (lv' := [(2, .int 0), (3, .int 6), (0, .ref hm), (1, .int 7)]) hx hb dX7_status_135 rfl hl (by decide) rfl (fun ls hl => ?_)
    refine lv_iinc (v := 7) (lv' := [(3, .int 7), (2, .int 0), (0, .ref hm), (1, .int 7)]) hx hb dX7_status_136 hl (k := 1) rfl (by decide) (by decide) rfl (fun ls hl => ?_)
    refine lv_goto (tgt := 113) hx hb dX7_status_139 (by decide) ?_
    refine lv_iload_n hx hb dX7_status_113 rfl (lv_at hl 0 rfl) ?_
    refine lv_bipush (v := 8) hx hb dX7_status_114 (by decide) ?_
    refine lv_icmp_ge (tgt := 142) hx hb dX7_status_116 (by decide) (fun c_24 => absurd c_24 (by decide)) (fun c_24 => ?_)
    refine lv_iload_n hx hb dX7_status_119 rfl (lv_at hl 1 rfl) ?_
    refine lv_aload_n hx hb dX7_status_120 rfl (lv_at hl 2 rfl) ?_
    refine va_get (D := D) (ci := 5) (v := .ref (am 1)) (C := RX7) (T := TX7) (N := 37) hx hb hT iw_TX7 hown hK.1 hP 0 rfl rfl 0 (by decide) (hT _ wd_930) (fun _ h9 => h9) rfl dX7_status_121 ?_
    refine lv_iload_n hx hb dX7_status_124 rfl (lv_at hl 0 rfl) ?_
    refine va_iald hx hb hK.1 hP 2 0 rfl rfl (gx_vin rfl) dX7_status_125 ?_
    refine gx_cst (v := 0) (rfl) ?_
    refine lv_if_eq (tgt := 133) hx hb dX7_status_126 (by decide) (fun c_25 => ?_) (fun c_25 => absurd (by decide) c_25)
    refine lv_iconst (v := 0) hx hb dX7_status_133 (by decide) ?_
    refine lv_iadd hx hb dX7_status_134 ?_
    refine gx_cst (v := 0) (by decide) ?_
    refine lv_istore_n (lv' := [(2, .int 0), (3, .int 7), (0, .ref hm), (1, .int 7)]) hx hb dX7_status_135 rfl hl (by decide) rfl (fun ls hl => ?_)
    refine lv_iinc (v := 8) (lv' := [(3, .int 8), (2, .int 0), (0, .ref hm), (1, .int 7)]) hx hb dX7_status_136 hl (k := 1) rfl (by decide) (by decide) rfl (fun ls hl => ?_)
    refine lv_goto (tgt := 113) hx hb dX7_status_139 (by decide) ?_
    refine lv_iload_n hx hb dX7_status_113 rfl (lv_at hl 0 rfl) ?_
    refine lv_bipush (v := 8) hx hb dX7_status_114 (by decide) ?_
    refine lv_icmp_ge (tgt := 142) hx hb dX7_status_116 (by decide) (fun c_26 => ?_) (fun c_26 => absurd (by decide) c_26)
    refine lv_iload_n hx hb dX7_status_142 rfl (lv_at hl 1 rfl) ?_
    exact gx_retP C hS (by decide) dX7_status_143
  by_cases w_27 : wv = 8
  · subst w_27
    refine lv_tableIn (off := 141) (tgt := 144) hx hb dX7_status_3 (by decide) (by decide) (by decide) (by decide) ?_
    refine lv_iconst (v := 0) hx hb dX7_status_144 (by decide) ?_
    refine lv_istore_n (lv' := [(3, .int 0), (2, .int 0), (0, .ref hm), (1, .int 8)]) hx hb dX7_status_145 rfl hl (by decide) rfl (fun ls hl => ?_)
    refine lv_iload_n hx hb dX7_status_146 rfl (lv_at hl 0 rfl) ?_
    refine lv_aload_n hx hb dX7_status_147 rfl (lv_at hl 2 rfl) ?_
    refine va_get (D := D) (ci := 5) (v := .int 0) (C := RX7) (T := TX7) (N := 37) hx hb hT iw_TX7 hown hK.1 hP 0 rfl rfl 10 (by decide) (hT _ wd_940) (fun _ h9 => h9) rfl dX7_status_148 ?_
    refine lv_icmp_ge (tgt := 171) hx hb dX7_status_151 (by decide) (fun c_28 => ?_) (fun c_28 => absurd (by decide) c_28)
    refine lv_iload_n hx hb dX7_status_171 rfl (lv_at hl 1 rfl) ?_
    exact gx_retP C hS (by decide) dX7_status_172
  refine lv_tableOut (tgt := 173) hx hb dX7_status_3 (gx_out9 w_1 w_2 w_3 w_4 w_5 w_7 w_8 w_9 w_27) (by decide) ?_
  refine lv_iload_n hx hb dX7_status_173 rfl (lv_at hl 2 rfl) ?_
  refine lv_i2l (v := (wv).toInt64) hx hb dX7_status_174 (rfl) ?_
  refine lv_ldc2 (v := 12) hx hb hown (hT _ wd_1455) dX7_status_175 ?_
  refine lv_ldc2 (v := 16) hx hb hown (hT _ wd_1456) dX7_status_178 ?_
  refine gx_pi hP hS (gx_runS (na := 3) (As := [.long ((wv).toInt64), .long 12, .long 16]) (rest := []) C hl.1 hK (gx_subP (wc := ([] : va_W)) hP [] rfl) ((hD.sub (ws' := ([] : va_W)) [] (by decide) rfl).weaken (fun _ _ _ _ => trivial)) (m_in l D k wv 12 16 12 16 (by decide) (by decide) _) gS_RX7_82 (by decide +kernel) rfl rfl ⟨Nat.le_of_ble_eq_true rfl, Nat.le_of_ble_eq_true rfl⟩ rfl rfl (Nat.le_of_ble_eq_true rfl) dX7_status_181 ⟨Nat.le_of_ble_eq_true rfl, Nat.le_of_ble_eq_true rfl⟩) (fun r_30 H locs pc_29 hP hS => ?_)
  have oc_29 : r_30 = 1 ∧ gx_b wv 12 16 = true ∨ r_30 = 0 ∧ gx_b wv 12 16 = false := pc_29
  clear pc_29
  rcases oc_29 with ⟨rfl, c_29⟩ | ⟨rfl, c_29⟩
  · refine lv_if_eq (tgt := 199) hx hb dX7_status_184 (by decide) (fun c_31 => absurd c_31 (by decide)) (fun c_31 => ?_)
    refine lv_aload_n hx hb dX7_status_187 rfl (lv_at hl 1 rfl) ?_
    refine va_get (D := D) (ci := 5) (v := .ref (am 9)) (C := RX7) (T := TX7) (N := 37) hx hb hT iw_TX7 hown hK.1 hP 0 rfl rfl 9 (by decide) (hT _ wd_939) (fun _ h9 => h9) rfl dX7_status_188 ?_
    refine lv_iload_n hx hb dX7_status_191 rfl (lv_at hl 2 rfl) ?_
    refine lv_bipush (v := 10) hx hb dX7_status_192 (by decide) ?_
    refine lv_isub hx hb dX7_status_194 ?_
    refine va_iald hx hb hK.1 hP 1 0 rfl rfl (gx_v10 c_29) dX7_status_195 ?_
    refine gx_cst (v := 0) (rfl) ?_
    refine lv_goto (tgt := 200) hx hb dX7_status_196 (by decide) ?_
    exact gx_retP C hS (by simp [gs_status, w_8, gx_b08 w_1 w_2 w_3 w_4 w_5 w_7 w_8 w_9 w_27, c_29]) dX7_status_200
  · refine lv_if_eq (tgt := 199) hx hb dX7_status_184 (by decide) (fun c_32 => ?_) (fun c_32 => absurd (by decide) c_32)
    refine lv_iconst (v := (-1)) hx hb dX7_status_199 (by decide) ?_
    exact gx_retP C hS (by simp [gs_status, w_8, gx_b08 w_1 w_2 w_3 w_4 w_5 w_7 w_8 w_9 w_27, c_29]) dX7_status_200
