section
-- ===== PART A: goes FIRST, ahead of the names: the tables' words, and 'selects' of the private methods out of them =====
/-- a private method of a class that the tables say can be made, by its rows of tables_1 -/
def lw_okq (q : MethodName × Nat) : Prop := (q.1.cls ≠ "java/lang/invoke/MethodHandle" ∧ q.1.cls ≠ "java/lang/invoke/VarHandle") ∧ Cond.instantiable q.1.cls q.2 ∈ tables_1 ∧ Cond.privateMethod q.1 ∈ tables_1 ∧ Cond.instanceMethod q.1 ∈ tables_1
theorem lw_p0 : lw_okq (⟨"EachRoadOnce", "refuse", "(I)I"⟩, 10) := ⟨⟨by decide +kernel, by decide +kernel⟩, List.mem_of_getElem? (i := 18) (by decide +kernel), List.mem_of_getElem? (i := 245) (by decide +kernel), List.mem_of_getElem? (i := 246) (by decide +kernel)⟩
theorem lw_p1 : lw_okq (⟨"EachRoadOnce", "rowTrouble", "(I)I"⟩, 10) := ⟨⟨by decide +kernel, by decide +kernel⟩, List.mem_of_getElem? (i := 18) (by decide +kernel), List.mem_of_getElem? (i := 260) (by decide +kernel), List.mem_of_getElem? (i := 261) (by decide +kernel)⟩
theorem lw_p2 : lw_okq (⟨"EachRoadOnce", "ruleTrouble", "(I)I"⟩, 10) := ⟨⟨by decide +kernel, by decide +kernel⟩, List.mem_of_getElem? (i := 18) (by decide +kernel), List.mem_of_getElem? (i := 314) (by decide +kernel), List.mem_of_getElem? (i := 315) (by decide +kernel)⟩
theorem lw_p3 : lw_okq (⟨"EachRoadOnce$Land", "isFresh", "(II)Z"⟩, 17) := ⟨⟨by decide +kernel, by decide +kernel⟩, List.mem_of_getElem? (i := 26) (by decide +kernel), List.mem_of_getElem? (i := 341) (by decide +kernel), List.mem_of_getElem? (i := 342) (by decide +kernel)⟩
theorem lw_p4 : lw_okq (⟨"EachRoadOnce", "isRoad", "(I)Z"⟩, 10) := ⟨⟨by decide +kernel, by decide +kernel⟩, List.mem_of_getElem? (i := 18) (by decide +kernel), List.mem_of_getElem? (i := 417) (by decide +kernel), List.mem_of_getElem? (i := 418) (by decide +kernel)⟩
theorem lw_p5 : lw_okq (⟨"EachRoadOnce$Tape", "advance", "()V"⟩, 6) := ⟨⟨by decide +kernel, by decide +kernel⟩, List.mem_of_getElem? (i := 122) (by decide +kernel), List.mem_of_getElem? (i := 451) (by decide +kernel), List.mem_of_getElem? (i := 452) (by decide +kernel)⟩
theorem lw_p6 : lw_okq (⟨"EachRoadOnce$Tape", "sortAt", "(I)I"⟩, 6) := ⟨⟨by decide +kernel, by decide +kernel⟩, List.mem_of_getElem? (i := 122) (by decide +kernel), List.mem_of_getElem? (i := 455) (by decide +kernel), List.mem_of_getElem? (i := 456) (by decide +kernel)⟩
theorem lw_p7 : lw_okq (⟨"EachRoadOnce$Tape", "readStatement", "(LEachRoadOnce$Land;)V"⟩, 6) := ⟨⟨by decide +kernel, by decide +kernel⟩, List.mem_of_getElem? (i := 122) (by decide +kernel), List.mem_of_getElem? (i := 459) (by decide +kernel), List.mem_of_getElem? (i := 460) (by decide +kernel)⟩
theorem lw_p8 : lw_okq (⟨"EachRoadOnce$Tape", "takes", "(Ljava/lang/String;Z)Z"⟩, 6) := ⟨⟨by decide +kernel, by decide +kernel⟩, List.mem_of_getElem? (i := 122) (by decide +kernel), List.mem_of_getElem? (i := 464) (by decide +kernel), List.mem_of_getElem? (i := 465) (by decide +kernel)⟩
theorem lw_p9 : lw_okq (⟨"EachRoadOnce$Tape", "readRoad", "(LEachRoadOnce$Land;)V"⟩, 6) := ⟨⟨by decide +kernel, by decide +kernel⟩, List.mem_of_getElem? (i := 122) (by decide +kernel), List.mem_of_getElem? (i := 516) (by decide +kernel), List.mem_of_getElem? (i := 517) (by decide +kernel)⟩
theorem lw_p10 : lw_okq (⟨"EachRoadOnce$Tape", "takeNumber", "(III)I"⟩, 6) := ⟨⟨by decide +kernel, by decide +kernel⟩, List.mem_of_getElem? (i := 122) (by decide +kernel), List.mem_of_getElem? (i := 520) (by decide +kernel), List.mem_of_getElem? (i := 521) (by decide +kernel)⟩
theorem lw_p11 : lw_okq (⟨"EachRoadOnce$Tape", "numberHere", "()I"⟩, 6) := ⟨⟨by decide +kernel, by decide +kernel⟩, List.mem_of_getElem? (i := 122) (by decide +kernel), List.mem_of_getElem? (i := 524) (by decide +kernel), List.mem_of_getElem? (i := 525) (by decide +kernel)⟩
theorem lw_p12 : lw_okq (⟨"EachRoadOnce$Tape", "stopHere", "()V"⟩, 6) := ⟨⟨by decide +kernel, by decide +kernel⟩, List.mem_of_getElem? (i := 122) (by decide +kernel), List.mem_of_getElem? (i := 528) (by decide +kernel), List.mem_of_getElem? (i := 529) (by decide +kernel)⟩
theorem lw_p13 : lw_okq (⟨"EachRoadOnce$Tape", "readOne", "(LEachRoadOnce$Land;)V"⟩, 6) := ⟨⟨by decide +kernel, by decide +kernel⟩, List.mem_of_getElem? (i := 122) (by decide +kernel), List.mem_of_getElem? (i := 536) (by decide +kernel), List.mem_of_getElem? (i := 537) (by decide +kernel)⟩
theorem lw_p14 : lw_okq (⟨"EachRoadOnce$Tape", "readGone", "(LEachRoadOnce$Land;)V"⟩, 6) := ⟨⟨by decide +kernel, by decide +kernel⟩, List.mem_of_getElem? (i := 122) (by decide +kernel), List.mem_of_getElem? (i := 542) (by decide +kernel), List.mem_of_getElem? (i := 543) (by decide +kernel)⟩
theorem lw_p15 : lw_okq (⟨"EachRoadOnce$Tape", "readAt", "(LEachRoadOnce$Land;)V"⟩, 6) := ⟨⟨by decide +kernel, by decide +kernel⟩, List.mem_of_getElem? (i := 122) (by decide +kernel), List.mem_of_getElem? (i := 551) (by decide +kernel), List.mem_of_getElem? (i := 552) (by decide +kernel)⟩
def lw_privs_1 : List (MethodName × Nat) := [(⟨"EachRoadOnce", "refuse", "(I)I"⟩, 10), (⟨"EachRoadOnce", "rowTrouble", "(I)I"⟩, 10), (⟨"EachRoadOnce", "ruleTrouble", "(I)I"⟩, 10), (⟨"EachRoadOnce$Land", "isFresh", "(II)Z"⟩, 17), (⟨"EachRoadOnce", "isRoad", "(I)Z"⟩, 10), (⟨"EachRoadOnce$Tape", "advance", "()V"⟩, 6), (⟨"EachRoadOnce$Tape", "sortAt", "(I)I"⟩, 6), (⟨"EachRoadOnce$Tape", "readStatement", "(LEachRoadOnce$Land;)V"⟩, 6), (⟨"EachRoadOnce$Tape", "takes", "(Ljava/lang/String;Z)Z"⟩, 6), (⟨"EachRoadOnce$Tape", "readRoad", "(LEachRoadOnce$Land;)V"⟩, 6), (⟨"EachRoadOnce$Tape", "takeNumber", "(III)I"⟩, 6), (⟨"EachRoadOnce$Tape", "numberHere", "()I"⟩, 6), (⟨"EachRoadOnce$Tape", "stopHere", "()V"⟩, 6), (⟨"EachRoadOnce$Tape", "readOne", "(LEachRoadOnce$Land;)V"⟩, 6), (⟨"EachRoadOnce$Tape", "readGone", "(LEachRoadOnce$Land;)V"⟩, 6), (⟨"EachRoadOnce$Tape", "readAt", "(LEachRoadOnce$Land;)V"⟩, 6)]
theorem lw_r1 : ∀ q ∈ lw_privs_1, lw_okq q := List.forall_mem_cons.mpr ⟨lw_p0, List.forall_mem_cons.mpr ⟨lw_p1, List.forall_mem_cons.mpr ⟨lw_p2, List.forall_mem_cons.mpr ⟨lw_p3, List.forall_mem_cons.mpr ⟨lw_p4, List.forall_mem_cons.mpr ⟨lw_p5, List.forall_mem_cons.mpr ⟨lw_p6, List.forall_mem_cons.mpr ⟨lw_p7, List.forall_mem_cons.mpr ⟨lw_p8, List.forall_mem_cons.mpr ⟨lw_p9, List.forall_mem_cons.mpr ⟨lw_p10, List.forall_mem_cons.mpr ⟨lw_p11, List.forall_mem_cons.mpr ⟨lw_p12, List.forall_mem_cons.mpr ⟨lw_p13, List.forall_mem_cons.mpr ⟨lw_p14, List.forall_mem_cons.mpr ⟨lw_p15, fun _ h => absurd h List.not_mem_nil⟩⟩⟩⟩⟩⟩⟩⟩⟩⟩⟩⟩⟩⟩⟩⟩
theorem lw_p16 : lw_okq (⟨"EachRoadOnce$Tape", "readAnew", "(LEachRoadOnce$Land;)V"⟩, 6) := ⟨⟨by decide +kernel, by decide +kernel⟩, List.mem_of_getElem? (i := 122) (by decide +kernel), List.mem_of_getElem? (i := 557) (by decide +kernel), List.mem_of_getElem? (i := 558) (by decide +kernel)⟩
theorem lw_p17 : lw_okq (⟨"EachRoadOnce$Tape", "readShut", "(LEachRoadOnce$Land;)V"⟩, 6) := ⟨⟨by decide +kernel, by decide +kernel⟩, List.mem_of_getElem? (i := 122) (by decide +kernel), List.mem_of_getElem? (i := 562) (by decide +kernel), List.mem_of_getElem? (i := 563) (by decide +kernel)⟩
theorem lw_p18 : lw_okq (⟨"EachRoadOnce", "isOne", "(I)Z"⟩, 10) := ⟨⟨by decide +kernel, by decide +kernel⟩, List.mem_of_getElem? (i := 18) (by decide +kernel), List.mem_of_getElem? (i := 575) (by decide +kernel), List.mem_of_getElem? (i := 576) (by decide +kernel)⟩
theorem lw_p19 : lw_okq (⟨"EachRoadOnce", "stretchTrouble", "(II)I"⟩, 10) := ⟨⟨by decide +kernel, by decide +kernel⟩, List.mem_of_getElem? (i := 18) (by decide +kernel), List.mem_of_getElem? (i := 649) (by decide +kernel), List.mem_of_getElem? (i := 650) (by decide +kernel)⟩
theorem lw_p20 : lw_okq (⟨"EachRoadOnce", "firstNotGone", "(ILEachRoadOnce$Shelf;I)I"⟩, 10) := ⟨⟨by decide +kernel, by decide +kernel⟩, List.mem_of_getElem? (i := 18) (by decide +kernel), List.mem_of_getElem? (i := 653) (by decide +kernel), List.mem_of_getElem? (i := 654) (by decide +kernel)⟩
theorem lw_p21 : lw_okq (⟨"EachRoadOnce$Trails", "spreadFrom", "(ILEachRoadOnce$Shelf;I)V"⟩, 7) := ⟨⟨by decide +kernel, by decide +kernel⟩, List.mem_of_getElem? (i := 151) (by decide +kernel), List.mem_of_getElem? (i := 745) (by decide +kernel), List.mem_of_getElem? (i := 746) (by decide +kernel)⟩
theorem lw_p22 : lw_okq (⟨"EachRoadOnce$Trails", "lengthOf", "(II)I"⟩, 7) := ⟨⟨by decide +kernel, by decide +kernel⟩, List.mem_of_getElem? (i := 151) (by decide +kernel), List.mem_of_getElem? (i := 756) (by decide +kernel), List.mem_of_getElem? (i := 757) (by decide +kernel)⟩
theorem lw_p23 : lw_okq (⟨"EachRoadOnce", "meetingPlace", "(II)I"⟩, 10) := ⟨⟨by decide +kernel, by decide +kernel⟩, List.mem_of_getElem? (i := 18) (by decide +kernel), List.mem_of_getElem? (i := 802) (by decide +kernel), List.mem_of_getElem? (i := 803) (by decide +kernel)⟩
theorem lw_p24 : lw_okq (⟨"EachRoadOnce", "filledShelves", "()I"⟩, 10) := ⟨⟨by decide +kernel, by decide +kernel⟩, List.mem_of_getElem? (i := 18) (by decide +kernel), List.mem_of_getElem? (i := 849) (by decide +kernel), List.mem_of_getElem? (i := 850) (by decide +kernel)⟩
theorem lw_p25 : lw_okq (⟨"EachRoadOnceModel", "refuse", "(I)I"⟩, 37) := ⟨⟨by decide +kernel, by decide +kernel⟩, List.mem_of_getElem? (i := 853) (by decide +kernel), List.mem_of_getElem? (i := 985) (by decide +kernel), List.mem_of_getElem? (i := 986) (by decide +kernel)⟩
theorem lw_p26 : lw_okq (⟨"EachRoadOnceModel", "noRow", "(I)I"⟩, 37) := ⟨⟨by decide +kernel, by decide +kernel⟩, List.mem_of_getElem? (i := 853) (by decide +kernel), List.mem_of_getElem? (i := 993) (by decide +kernel), List.mem_of_getElem? (i := 994) (by decide +kernel)⟩
theorem lw_p27 : lw_okq (⟨"EachRoadOnceModel", "nextBy", "(IIII)I"⟩, 37) := ⟨⟨by decide +kernel, by decide +kernel⟩, List.mem_of_getElem? (i := 853) (by decide +kernel), List.mem_of_getElem? (i := 1025) (by decide +kernel), List.mem_of_getElem? (i := 1026) (by decide +kernel)⟩
theorem lw_p28 : lw_okq (⟨"EachRoadOnceModel", "hereOf", "(I)I"⟩, 37) := ⟨⟨by decide +kernel, by decide +kernel⟩, List.mem_of_getElem? (i := 853) (by decide +kernel), List.mem_of_getElem? (i := 1029) (by decide +kernel), List.mem_of_getElem? (i := 1030) (by decide +kernel)⟩
theorem lw_p29 : lw_okq (⟨"EachRoadOnceModel", "leftTo", "(I)I"⟩, 37) := ⟨⟨by decide +kernel, by decide +kernel⟩, List.mem_of_getElem? (i := 853) (by decide +kernel), List.mem_of_getElem? (i := 1033) (by decide +kernel), List.mem_of_getElem? (i := 1034) (by decide +kernel)⟩
theorem lw_p30 : lw_okq (⟨"EachRoadOnceModel", "isLeft", "(II)Z"⟩, 37) := ⟨⟨by decide +kernel, by decide +kernel⟩, List.mem_of_getElem? (i := 853) (by decide +kernel), List.mem_of_getElem? (i := 1037) (by decide +kernel), List.mem_of_getElem? (i := 1038) (by decide +kernel)⟩
theorem lw_p31 : lw_okq (⟨"EachRoadOnceModel", "isAt", "(II)Z"⟩, 37) := ⟨⟨by decide +kernel, by decide +kernel⟩, List.mem_of_getElem? (i := 853) (by decide +kernel), List.mem_of_getElem? (i := 1041) (by decide +kernel), List.mem_of_getElem? (i := 1042) (by decide +kernel)⟩
def lw_privs_2 : List (MethodName × Nat) := [(⟨"EachRoadOnce$Tape", "readAnew", "(LEachRoadOnce$Land;)V"⟩, 6), (⟨"EachRoadOnce$Tape", "readShut", "(LEachRoadOnce$Land;)V"⟩, 6), (⟨"EachRoadOnce", "isOne", "(I)Z"⟩, 10), (⟨"EachRoadOnce", "stretchTrouble", "(II)I"⟩, 10), (⟨"EachRoadOnce", "firstNotGone", "(ILEachRoadOnce$Shelf;I)I"⟩, 10), (⟨"EachRoadOnce$Trails", "spreadFrom", "(ILEachRoadOnce$Shelf;I)V"⟩, 7), (⟨"EachRoadOnce$Trails", "lengthOf", "(II)I"⟩, 7), (⟨"EachRoadOnce", "meetingPlace", "(II)I"⟩, 10), (⟨"EachRoadOnce", "filledShelves", "()I"⟩, 10), (⟨"EachRoadOnceModel", "refuse", "(I)I"⟩, 37), (⟨"EachRoadOnceModel", "noRow", "(I)I"⟩, 37), (⟨"EachRoadOnceModel", "nextBy", "(IIII)I"⟩, 37), (⟨"EachRoadOnceModel", "hereOf", "(I)I"⟩, 37), (⟨"EachRoadOnceModel", "leftTo", "(I)I"⟩, 37), (⟨"EachRoadOnceModel", "isLeft", "(II)Z"⟩, 37), (⟨"EachRoadOnceModel", "isAt", "(II)Z"⟩, 37)]
theorem lw_r2 : ∀ q ∈ lw_privs_2, lw_okq q := List.forall_mem_cons.mpr ⟨lw_p16, List.forall_mem_cons.mpr ⟨lw_p17, List.forall_mem_cons.mpr ⟨lw_p18, List.forall_mem_cons.mpr ⟨lw_p19, List.forall_mem_cons.mpr ⟨lw_p20, List.forall_mem_cons.mpr ⟨lw_p21, List.forall_mem_cons.mpr ⟨lw_p22, List.forall_mem_cons.mpr ⟨lw_p23, List.forall_mem_cons.mpr ⟨lw_p24, List.forall_mem_cons.mpr ⟨lw_p25, List.forall_mem_cons.mpr ⟨lw_p26, List.forall_mem_cons.mpr ⟨lw_p27, List.forall_mem_cons.mpr ⟨lw_p28, List.forall_mem_cons.mpr ⟨lw_p29, List.forall_mem_cons.mpr ⟨lw_p30, List.forall_mem_cons.mpr ⟨lw_p31, fun _ h => absurd h List.not_mem_nil⟩⟩⟩⟩⟩⟩⟩⟩⟩⟩⟩⟩⟩⟩⟩⟩
theorem lw_p32 : lw_okq (⟨"EachRoadOnceModel", "isSafeBehind", "(II)Z"⟩, 37) := ⟨⟨by decide +kernel, by decide +kernel⟩, List.mem_of_getElem? (i := 853) (by decide +kernel), List.mem_of_getElem? (i := 1045) (by decide +kernel), List.mem_of_getElem? (i := 1046) (by decide +kernel)⟩
theorem lw_p33 : lw_okq (⟨"EachRoadOnceModel", "otherOf", "(II)I"⟩, 37) := ⟨⟨by decide +kernel, by decide +kernel⟩, List.mem_of_getElem? (i := 853) (by decide +kernel), List.mem_of_getElem? (i := 1049) (by decide +kernel), List.mem_of_getElem? (i := 1050) (by decide +kernel)⟩
theorem lw_p34 : lw_okq (⟨"EachRoadOnceModel", "reachBy", "(II)I"⟩, 37) := ⟨⟨by decide +kernel, by decide +kernel⟩, List.mem_of_getElem? (i := 853) (by decide +kernel), List.mem_of_getElem? (i := 1053) (by decide +kernel), List.mem_of_getElem? (i := 1054) (by decide +kernel)⟩
theorem lw_p35 : lw_okq (⟨"EachRoadOnceModel", "byMiles", "(IZ)I"⟩, 37) := ⟨⟨by decide +kernel, by decide +kernel⟩, List.mem_of_getElem? (i := 853) (by decide +kernel), List.mem_of_getElem? (i := 1057) (by decide +kernel), List.mem_of_getElem? (i := 1058) (by decide +kernel)⟩
theorem lw_p36 : lw_okq (⟨"EachRoadOnceModel", "newRoad", "()V"⟩, 37) := ⟨⟨by decide +kernel, by decide +kernel⟩, List.mem_of_getElem? (i := 853) (by decide +kernel), List.mem_of_getElem? (i := 1072) (by decide +kernel), List.mem_of_getElem? (i := 1073) (by decide +kernel)⟩
theorem lw_p37 : lw_okq (⟨"EachRoadOnceModel", "newOne", "(I)V"⟩, 37) := ⟨⟨by decide +kernel, by decide +kernel⟩, List.mem_of_getElem? (i := 853) (by decide +kernel), List.mem_of_getElem? (i := 1080) (by decide +kernel), List.mem_of_getElem? (i := 1081) (by decide +kernel)⟩
theorem lw_p38 : lw_okq (⟨"EachRoadOnceModel", "isRoad", "(J)Z"⟩, 37) := ⟨⟨by decide +kernel, by decide +kernel⟩, List.mem_of_getElem? (i := 853) (by decide +kernel), List.mem_of_getElem? (i := 1088) (by decide +kernel), List.mem_of_getElem? (i := 1089) (by decide +kernel)⟩
theorem lw_p39 : lw_okq (⟨"EachRoadOnceModel", "fresh", "()LEachRoadOnceModel;"⟩, 37) := ⟨⟨by decide +kernel, by decide +kernel⟩, List.mem_of_getElem? (i := 853) (by decide +kernel), List.mem_of_getElem? (i := 1108) (by decide +kernel), List.mem_of_getElem? (i := 1109) (by decide +kernel)⟩
theorem lw_p40 : lw_okq (⟨"EachRoadOnceModel", "takeFrom", "(LEachRoadOnceModel;)V"⟩, 37) := ⟨⟨by decide +kernel, by decide +kernel⟩, List.mem_of_getElem? (i := 853) (by decide +kernel), List.mem_of_getElem? (i := 1114) (by decide +kernel), List.mem_of_getElem? (i := 1115) (by decide +kernel)⟩
theorem lw_p41 : lw_okq (⟨"EachRoadOnceModel", "readAll", "()Z"⟩, 37) := ⟨⟨by decide +kernel, by decide +kernel⟩, List.mem_of_getElem? (i := 853) (by decide +kernel), List.mem_of_getElem? (i := 1121) (by decide +kernel), List.mem_of_getElem? (i := 1122) (by decide +kernel)⟩
theorem lw_p42 : lw_okq (⟨"EachRoadOnceModel", "look", "()V"⟩, 37) := ⟨⟨by decide +kernel, by decide +kernel⟩, List.mem_of_getElem? (i := 853) (by decide +kernel), List.mem_of_getElem? (i := 1125) (by decide +kernel), List.mem_of_getElem? (i := 1126) (by decide +kernel)⟩
theorem lw_p43 : lw_okq (⟨"EachRoadOnceModel", "statement", "()Z"⟩, 37) := ⟨⟨by decide +kernel, by decide +kernel⟩, List.mem_of_getElem? (i := 853) (by decide +kernel), List.mem_of_getElem? (i := 1138) (by decide +kernel), List.mem_of_getElem? (i := 1139) (by decide +kernel)⟩
theorem lw_p44 : lw_okq (⟨"EachRoadOnceModel", "isWord", "(Ljava/lang/String;)Z"⟩, 37) := ⟨⟨by decide +kernel, by decide +kernel⟩, List.mem_of_getElem? (i := 853) (by decide +kernel), List.mem_of_getElem? (i := 1143) (by decide +kernel), List.mem_of_getElem? (i := 1144) (by decide +kernel)⟩
theorem lw_p45 : lw_okq (⟨"EachRoadOnceModel", "roadTold", "()Z"⟩, 37) := ⟨⟨by decide +kernel, by decide +kernel⟩, List.mem_of_getElem? (i := 853) (by decide +kernel), List.mem_of_getElem? (i := 1149) (by decide +kernel), List.mem_of_getElem? (i := 1150) (by decide +kernel)⟩
theorem lw_p46 : lw_okq (⟨"EachRoadOnceModel", "tells", "(Ljava/lang/String;III)Z"⟩, 37) := ⟨⟨by decide +kernel, by decide +kernel⟩, List.mem_of_getElem? (i := 853) (by decide +kernel), List.mem_of_getElem? (i := 1153) (by decide +kernel), List.mem_of_getElem? (i := 1154) (by decide +kernel)⟩
theorem lw_p47 : lw_okq (⟨"EachRoadOnceModel", "wrong", "()Z"⟩, 37) := ⟨⟨by decide +kernel, by decide +kernel⟩, List.mem_of_getElem? (i := 853) (by decide +kernel), List.mem_of_getElem? (i := 1157) (by decide +kernel), List.mem_of_getElem? (i := 1158) (by decide +kernel)⟩
def lw_privs_3 : List (MethodName × Nat) := [(⟨"EachRoadOnceModel", "isSafeBehind", "(II)Z"⟩, 37), (⟨"EachRoadOnceModel", "otherOf", "(II)I"⟩, 37), (⟨"EachRoadOnceModel", "reachBy", "(II)I"⟩, 37), (⟨"EachRoadOnceModel", "byMiles", "(IZ)I"⟩, 37), (⟨"EachRoadOnceModel", "newRoad", "()V"⟩, 37), (⟨"EachRoadOnceModel", "newOne", "(I)V"⟩, 37), (⟨"EachRoadOnceModel", "isRoad", "(J)Z"⟩, 37), (⟨"EachRoadOnceModel", "fresh", "()LEachRoadOnceModel;"⟩, 37), (⟨"EachRoadOnceModel", "takeFrom", "(LEachRoadOnceModel;)V"⟩, 37), (⟨"EachRoadOnceModel", "readAll", "()Z"⟩, 37), (⟨"EachRoadOnceModel", "look", "()V"⟩, 37), (⟨"EachRoadOnceModel", "statement", "()Z"⟩, 37), (⟨"EachRoadOnceModel", "isWord", "(Ljava/lang/String;)Z"⟩, 37), (⟨"EachRoadOnceModel", "roadTold", "()Z"⟩, 37), (⟨"EachRoadOnceModel", "tells", "(Ljava/lang/String;III)Z"⟩, 37), (⟨"EachRoadOnceModel", "wrong", "()Z"⟩, 37)]
theorem lw_r3 : ∀ q ∈ lw_privs_3, lw_okq q := List.forall_mem_cons.mpr ⟨lw_p32, List.forall_mem_cons.mpr ⟨lw_p33, List.forall_mem_cons.mpr ⟨lw_p34, List.forall_mem_cons.mpr ⟨lw_p35, List.forall_mem_cons.mpr ⟨lw_p36, List.forall_mem_cons.mpr ⟨lw_p37, List.forall_mem_cons.mpr ⟨lw_p38, List.forall_mem_cons.mpr ⟨lw_p39, List.forall_mem_cons.mpr ⟨lw_p40, List.forall_mem_cons.mpr ⟨lw_p41, List.forall_mem_cons.mpr ⟨lw_p42, List.forall_mem_cons.mpr ⟨lw_p43, List.forall_mem_cons.mpr ⟨lw_p44, List.forall_mem_cons.mpr ⟨lw_p45, List.forall_mem_cons.mpr ⟨lw_p46, List.forall_mem_cons.mpr ⟨lw_p47, fun _ h => absurd h List.not_mem_nil⟩⟩⟩⟩⟩⟩⟩⟩⟩⟩⟩⟩⟩⟩⟩⟩
theorem lw_p48 : lw_okq (⟨"EachRoadOnceModel", "number", "(III)Z"⟩, 37) := ⟨⟨by decide +kernel, by decide +kernel⟩, List.mem_of_getElem? (i := 853) (by decide +kernel), List.mem_of_getElem? (i := 1161) (by decide +kernel), List.mem_of_getElem? (i := 1162) (by decide +kernel)⟩
theorem lw_p49 : lw_okq (⟨"EachRoadOnceModel", "isOne", "(I)Z"⟩, 37) := ⟨⟨by decide +kernel, by decide +kernel⟩, List.mem_of_getElem? (i := 853) (by decide +kernel), List.mem_of_getElem? (i := 1181) (by decide +kernel), List.mem_of_getElem? (i := 1182) (by decide +kernel)⟩
theorem lw_p50 : lw_okq (⟨"EachRoadOnceModel", "isSafe", "(I)Z"⟩, 37) := ⟨⟨by decide +kernel, by decide +kernel⟩, List.mem_of_getElem? (i := 853) (by decide +kernel), List.mem_of_getElem? (i := 1206) (by decide +kernel), List.mem_of_getElem? (i := 1207) (by decide +kernel)⟩
theorem lw_p51 : lw_okq (⟨"EachRoadOnceModel", "goes", "(II)V"⟩, 37) := ⟨⟨by decide +kernel, by decide +kernel⟩, List.mem_of_getElem? (i := 853) (by decide +kernel), List.mem_of_getElem? (i := 1214) (by decide +kernel), List.mem_of_getElem? (i := 1215) (by decide +kernel)⟩
theorem lw_p52 : lw_okq (⟨"EachRoadOnceModel", "noRule", "(I)I"⟩, 37) := ⟨⟨by decide +kernel, by decide +kernel⟩, List.mem_of_getElem? (i := 853) (by decide +kernel), List.mem_of_getElem? (i := 1226) (by decide +kernel), List.mem_of_getElem? (i := 1227) (by decide +kernel)⟩
theorem lw_p53 : lw_okq (⟨"EachRoadOnceModel", "runs", "(IIII)I"⟩, 37) := ⟨⟨by decide +kernel, by decide +kernel⟩, List.mem_of_getElem? (i := 853) (by decide +kernel), List.mem_of_getElem? (i := 1234) (by decide +kernel), List.mem_of_getElem? (i := 1235) (by decide +kernel)⟩
theorem lw_p54 : lw_okq (⟨"EachRoadOnceModel", "noTold", "(IIII)I"⟩, 37) := ⟨⟨by decide +kernel, by decide +kernel⟩, List.mem_of_getElem? (i := 853) (by decide +kernel), List.mem_of_getElem? (i := 1250) (by decide +kernel), List.mem_of_getElem? (i := 1251) (by decide +kernel)⟩
theorem lw_p55 : lw_okq (⟨"EachRoadOnceModel", "goThrough", "(III)I"⟩, 37) := ⟨⟨by decide +kernel, by decide +kernel⟩, List.mem_of_getElem? (i := 853) (by decide +kernel), List.mem_of_getElem? (i := 1254) (by decide +kernel), List.mem_of_getElem? (i := 1255) (by decide +kernel)⟩
theorem lw_p56 : lw_okq (⟨"EachRoadOnceModel", "theseOf", "(I)I"⟩, 37) := ⟨⟨by decide +kernel, by decide +kernel⟩, List.mem_of_getElem? (i := 853) (by decide +kernel), List.mem_of_getElem? (i := 1267) (by decide +kernel), List.mem_of_getElem? (i := 1268) (by decide +kernel)⟩
theorem lw_p57 : lw_okq (⟨"EachRoadOnceModel", "endsOf", "(I)I"⟩, 37) := ⟨⟨by decide +kernel, by decide +kernel⟩, List.mem_of_getElem? (i := 853) (by decide +kernel), List.mem_of_getElem? (i := 1271) (by decide +kernel), List.mem_of_getElem? (i := 1272) (by decide +kernel)⟩
theorem lw_p58 : lw_okq (⟨"EachRoadOnceModel", "oddOf", "(I)I"⟩, 37) := ⟨⟨by decide +kernel, by decide +kernel⟩, List.mem_of_getElem? (i := 853) (by decide +kernel), List.mem_of_getElem? (i := 1275) (by decide +kernel), List.mem_of_getElem? (i := 1276) (by decide +kernel)⟩
theorem lw_p59 : lw_okq (⟨"EachRoadOnceModel", "inOne", "(II)I"⟩, 37) := ⟨⟨by decide +kernel, by decide +kernel⟩, List.mem_of_getElem? (i := 853) (by decide +kernel), List.mem_of_getElem? (i := 1286) (by decide +kernel), List.mem_of_getElem? (i := 1287) (by decide +kernel)⟩
theorem lw_p60 : lw_okq (⟨"EachRoadOnceModel", "goesOn", "(III)Z"⟩, 37) := ⟨⟨by decide +kernel, by decide +kernel⟩, List.mem_of_getElem? (i := 853) (by decide +kernel), List.mem_of_getElem? (i := 1294) (by decide +kernel), List.mem_of_getElem? (i := 1295) (by decide +kernel)⟩
theorem lw_p61 : lw_okq (⟨"EachRoadOnceModel", "listOf", "(I)I"⟩, 37) := ⟨⟨by decide +kernel, by decide +kernel⟩, List.mem_of_getElem? (i := 853) (by decide +kernel), List.mem_of_getElem? (i := 1306) (by decide +kernel), List.mem_of_getElem? (i := 1307) (by decide +kernel)⟩
theorem lw_p62 : lw_okq (⟨"EachRoadOnceModel", "areTwo", "(III)Z"⟩, 37) := ⟨⟨by decide +kernel, by decide +kernel⟩, List.mem_of_getElem? (i := 853) (by decide +kernel), List.mem_of_getElem? (i := 1314) (by decide +kernel), List.mem_of_getElem? (i := 1315) (by decide +kernel)⟩
theorem lw_p63 : lw_okq (⟨"EachRoadOnceModel", "findFlow", "(III)I"⟩, 37) := ⟨⟨by decide +kernel, by decide +kernel⟩, List.mem_of_getElem? (i := 853) (by decide +kernel), List.mem_of_getElem? (i := 1318) (by decide +kernel), List.mem_of_getElem? (i := 1319) (by decide +kernel)⟩
def lw_privs_4 : List (MethodName × Nat) := [(⟨"EachRoadOnceModel", "number", "(III)Z"⟩, 37), (⟨"EachRoadOnceModel", "isOne", "(I)Z"⟩, 37), (⟨"EachRoadOnceModel", "isSafe", "(I)Z"⟩, 37), (⟨"EachRoadOnceModel", "goes", "(II)V"⟩, 37), (⟨"EachRoadOnceModel", "noRule", "(I)I"⟩, 37), (⟨"EachRoadOnceModel", "runs", "(IIII)I"⟩, 37), (⟨"EachRoadOnceModel", "noTold", "(IIII)I"⟩, 37), (⟨"EachRoadOnceModel", "goThrough", "(III)I"⟩, 37), (⟨"EachRoadOnceModel", "theseOf", "(I)I"⟩, 37), (⟨"EachRoadOnceModel", "endsOf", "(I)I"⟩, 37), (⟨"EachRoadOnceModel", "oddOf", "(I)I"⟩, 37), (⟨"EachRoadOnceModel", "inOne", "(II)I"⟩, 37), (⟨"EachRoadOnceModel", "goesOn", "(III)Z"⟩, 37), (⟨"EachRoadOnceModel", "listOf", "(I)I"⟩, 37), (⟨"EachRoadOnceModel", "areTwo", "(III)Z"⟩, 37), (⟨"EachRoadOnceModel", "findFlow", "(III)I"⟩, 37)]
theorem lw_r4 : ∀ q ∈ lw_privs_4, lw_okq q := List.forall_mem_cons.mpr ⟨lw_p48, List.forall_mem_cons.mpr ⟨lw_p49, List.forall_mem_cons.mpr ⟨lw_p50, List.forall_mem_cons.mpr ⟨lw_p51, List.forall_mem_cons.mpr ⟨lw_p52, List.forall_mem_cons.mpr ⟨lw_p53, List.forall_mem_cons.mpr ⟨lw_p54, List.forall_mem_cons.mpr ⟨lw_p55, List.forall_mem_cons.mpr ⟨lw_p56, List.forall_mem_cons.mpr ⟨lw_p57, List.forall_mem_cons.mpr ⟨lw_p58, List.forall_mem_cons.mpr ⟨lw_p59, List.forall_mem_cons.mpr ⟨lw_p60, List.forall_mem_cons.mpr ⟨lw_p61, List.forall_mem_cons.mpr ⟨lw_p62, List.forall_mem_cons.mpr ⟨lw_p63, fun _ h => absurd h List.not_mem_nil⟩⟩⟩⟩⟩⟩⟩⟩⟩⟩⟩⟩⟩⟩⟩⟩
theorem lw_p64 : lw_okq (⟨"EachRoadOnceModel", "findWay", "(II)I"⟩, 37) := ⟨⟨by decide +kernel, by decide +kernel⟩, List.mem_of_getElem? (i := 853) (by decide +kernel), List.mem_of_getElem? (i := 1322) (by decide +kernel), List.mem_of_getElem? (i := 1323) (by decide +kernel)⟩
theorem lw_p65 : lw_okq (⟨"EachRoadOnceModel", "meetsAt", "(IIII)I"⟩, 37) := ⟨⟨by decide +kernel, by decide +kernel⟩, List.mem_of_getElem? (i := 853) (by decide +kernel), List.mem_of_getElem? (i := 1334) (by decide +kernel), List.mem_of_getElem? (i := 1335) (by decide +kernel)⟩
theorem lw_p66 : lw_okq (⟨"EachRoadOnceModel", "findMiles", "(I[I)V"⟩, 37) := ⟨⟨by decide +kernel, by decide +kernel⟩, List.mem_of_getElem? (i := 853) (by decide +kernel), List.mem_of_getElem? (i := 1342) (by decide +kernel), List.mem_of_getElem? (i := 1343) (by decide +kernel)⟩
theorem lw_p67 : lw_okq (⟨"EachRoadOnceModel", "draw", "(I)I"⟩, 37) := ⟨⟨by decide +kernel, by decide +kernel⟩, List.mem_of_getElem? (i := 853) (by decide +kernel), List.mem_of_getElem? (i := 1367) (by decide +kernel), List.mem_of_getElem? (i := 1368) (by decide +kernel)⟩
def lw_privs_5 : List (MethodName × Nat) := [(⟨"EachRoadOnceModel", "findWay", "(II)I"⟩, 37), (⟨"EachRoadOnceModel", "meetsAt", "(IIII)I"⟩, 37), (⟨"EachRoadOnceModel", "findMiles", "(I[I)V"⟩, 37), (⟨"EachRoadOnceModel", "draw", "(I)I"⟩, 37)]
theorem lw_r5 : ∀ q ∈ lw_privs_5, lw_okq q := List.forall_mem_cons.mpr ⟨lw_p64, List.forall_mem_cons.mpr ⟨lw_p65, List.forall_mem_cons.mpr ⟨lw_p66, List.forall_mem_cons.mpr ⟨lw_p67, fun _ h => absurd h List.not_mem_nil⟩⟩⟩⟩
def lw_privs : List (MethodName × Nat) := lw_privs_1 ++ (lw_privs_2 ++ (lw_privs_3 ++ (lw_privs_4 ++ (lw_privs_5))))
def lw_tbl : List Cond := k2_sels lw_privs ++ tables_1
theorem lw_privs_ok : ∀ q ∈ lw_privs, lw_okq q := by
  show ∀ q ∈ lw_privs_1 ++ (lw_privs_2 ++ (lw_privs_3 ++ (lw_privs_4 ++ (lw_privs_5)))), lw_okq q
  exact List.forall_mem_append.mpr ⟨lw_r1, List.forall_mem_append.mpr ⟨lw_r2, List.forall_mem_append.mpr ⟨lw_r3, List.forall_mem_append.mpr ⟨lw_r4, lw_r5⟩⟩⟩⟩
end
section
-- names of the program's classes and methods, as the claim prints them
def RX1 : String := "EachRoadOnce$Land"
def TX1 : u_T := fun k => match k with
  | 0 => ("EachRoadOnce$Land", "from", "[I", true)
  | 1 => ("EachRoadOnce$Land", "to", "[I", true)
  | 2 => ("EachRoadOnce$Land", "ends", "[I", true)
  | 3 => ("EachRoadOnce$Land", "miles", "[I", true)
  | 4 => ("EachRoadOnce$Land", "home", "[I", true)
  | 5 => ("EachRoadOnce$Land", "place", "[I", true)
  | 6 => ("EachRoadOnce$Land", "been", "[I", true)
  | 7 => ("EachRoadOnce$Land", "gone", "[I", true)
  | 8 => ("EachRoadOnce$Land", "when", "[I", true)
  | 9 => ("EachRoadOnce$Land", "roads", "I", false)
  | 10 => ("EachRoadOnce$Land", "people", "I", false)
  | 11 => ("EachRoadOnce$Land", "year", "I", false)
  | 12 => ("EachRoadOnce$Land", "anew", "I", false)
  | 13 => ("EachRoadOnce$Land", "seed", "I", false)
  | 14 => ("EachRoadOnce$Land", "shutRoads", "I", false)
  | 15 => ("EachRoadOnce$Land", "roundRoads", "I", false)
  | _ => ("EachRoadOnce$Land", "walked", "I", false)
def tyX1 : Nat → FieldType := fun k => match k with
  | 0 => .array .int
  | 1 => .array .int
  | 2 => .array .int
  | 3 => .array .int
  | 4 => .array .int
  | 5 => .array .int
  | 6 => .array .int
  | 7 => .array .int
  | 8 => .array .int
  | 9 => .int
  | 10 => .int
  | 11 => .int
  | 12 => .int
  | 13 => .int
  | 14 => .int
  | 15 => .int
  | _ => .int
abbrev wsX10 : List Cond := u_ws RX1 TX1 17
theorem nmX1 : ∀ a, a < 17 → ∀ b, b < 17 → a ≠ b → (TX1 a).2.1 ≠ (TX1 b).2.1 := by decide +kernel
theorem tyX1_ok : ∀ k, k < 17 → parseFieldDescriptor (TX1 k).2.2.1 = some (tyX1 k) := by decide +kernel
abbrev cX1_init : ByteArray := prog_3_method_1_code
def yX1_init : MethodName := ⟨RX1, "<init>", "()V"⟩
abbrev cX1_become : ByteArray := prog_3_method_2_code
def yX1_become : MethodName := ⟨RX1, "become", "(LEachRoadOnce$Land;)V"⟩
abbrev cX1_build : ByteArray := prog_3_method_3_code
def yX1_build : MethodName := ⟨RX1, "build", "(IIIZ)I"⟩
abbrev cX1_settle : ByteArray := prog_3_method_4_code
def yX1_settle : MethodName := ⟨RX1, "settle", "(I)I"⟩
abbrev cX1_put : ByteArray := prog_3_method_5_code
def yX1_put : MethodName := ⟨RX1, "put", "(II)V"⟩
abbrev cX1_lastYear : ByteArray := prog_3_method_6_code
def yX1_lastYear : MethodName := ⟨RX1, "lastYear", "(II)I"⟩
abbrev cX1_noteGone : ByteArray := prog_3_method_7_code
def yX1_noteGone : MethodName := ⟨RX1, "noteGone", "(II)V"⟩
abbrev cX1_goAlong : ByteArray := prog_3_method_8_code
def yX1_goAlong : MethodName := ⟨RX1, "goAlong", "(II)V"⟩
abbrev cX1_otherEnd : ByteArray := prog_3_method_9_code
def yX1_otherEnd : MethodName := ⟨RX1, "otherEnd", "(II)I"⟩
abbrev cX1_isFresh : ByteArray := prog_3_method_10_code
def yX1_isFresh : MethodName := ⟨RX1, "isFresh", "(II)Z"⟩
abbrev cX1_leftTo : ByteArray := prog_3_method_11_code
def yX1_leftTo : MethodName := ⟨RX1, "leftTo", "(I)I"⟩
abbrev cX1_onceLeftTo : ByteArray := prog_3_method_12_code
def yX1_onceLeftTo : MethodName := ⟨RX1, "onceLeftTo", "(I)I"⟩
abbrev cX1_roadsAt : ByteArray := prog_3_method_13_code
def yX1_roadsAt : MethodName := ⟨RX1, "roadsAt", "(II)I"⟩
abbrev cX1_leftHere : ByteArray := prog_3_method_14_code
def yX1_leftHere : MethodName := ⟨RX1, "leftHere", "(I)I"⟩
abbrev cX1_flood : ByteArray := prog_3_method_15_code
def yX1_flood : MethodName := ⟨RX1, "flood", "(II)I"⟩
abbrev cX1_reachOf : ByteArray := prog_3_method_16_code
def yX1_reachOf : MethodName := ⟨RX1, "reachOf", "(I)I"⟩
abbrev cX1_isSafe : ByteArray := prog_3_method_17_code
def yX1_isSafe : MethodName := ⟨RX1, "isSafe", "(I)Z"⟩
abbrev cX1_isSafeBehind : ByteArray := prog_3_method_18_code
def yX1_isSafeBehind : MethodName := ⟨RX1, "isSafeBehind", "(III)Z"⟩
abbrev cX1_goneInAll : ByteArray := prog_3_method_19_code
def yX1_goneInAll : MethodName := ⟨RX1, "goneInAll", "()I"⟩
abbrev cX1_drawn : ByteArray := prog_3_method_20_code
def yX1_drawn : MethodName := ⟨RX1, "drawn", "(I)I"⟩
def RX3 : String := "EachRoadOnce$Shelf"
def TX3 : u_T := fun k => match k with
  | 0 => ("EachRoadOnce$Shelf", "elements", "[J", true)
  | 1 => ("EachRoadOnce$Shelf", "size", "I", false)
  | 2 => ("EachRoadOnce$Shelf", "a", "I", false)
  | _ => ("EachRoadOnce$Shelf", "content", "I", false)
def tyX3 : Nat → FieldType := fun k => match k with
  | 0 => .array .long
  | 1 => .int
  | 2 => .int
  | _ => .int
abbrev wsX30 : List Cond := u_ws RX3 TX3 4
theorem nmX3 : ∀ a, a < 4 → ∀ b, b < 4 → a ≠ b → (TX3 a).2.1 ≠ (TX3 b).2.1 := by decide +kernel
theorem tyX3_ok : ∀ k, k < 4 → parseFieldDescriptor (TX3 k).2.2.1 = some (tyX3 k) := by decide +kernel
abbrev cX3_init : ByteArray := prog_5_method_1_code
def yX3_init : MethodName := ⟨RX3, "<init>", "()V"⟩
abbrev cX3_isEmpty : ByteArray := prog_5_method_2_code
def yX3_isEmpty : MethodName := ⟨RX3, "isEmpty", "()Z"⟩
abbrev cX3_isRow : ByteArray := prog_5_method_3_code
def yX3_isRow : MethodName := ⟨RX3, "isRow", "()Z"⟩
abbrev cX3_isRule : ByteArray := prog_5_method_4_code
def yX3_isRule : MethodName := ⟨RX3, "isRule", "()Z"⟩
abbrev cX3_kind : ByteArray := prog_5_method_5_code
def yX3_kind : MethodName := ⟨RX3, "kind", "()I"⟩
abbrev cX3_hasStretch : ByteArray := prog_5_method_6_code
def yX3_hasStretch : MethodName := ⟨RX3, "hasStretch", "(II)Z"⟩
abbrev cX3_becomeRow : ByteArray := prog_5_method_7_code
def yX3_becomeRow : MethodName := ⟨RX3, "becomeRow", "(II)V"⟩
abbrev cX3_becomeRule : ByteArray := prog_5_method_8_code
def yX3_becomeRule : MethodName := ⟨RX3, "becomeRule", "(II)V"⟩
abbrev cX3_put : ByteArray := prog_5_method_9_code
def yX3_put : MethodName := ⟨RX3, "put", "(IJ)V"⟩
def RX4 : String := "EachRoadOnce$Tape"
def TX4 : u_T := fun k => match k with
  | 0 => ("EachRoadOnce$Tape", "bytes", "[I", true)
  | 1 => ("EachRoadOnce$Tape", "size", "I", false)
  | 2 => ("EachRoadOnce$Tape", "fault", "I", false)
  | 3 => ("EachRoadOnce$Tape", "sort", "I", false)
  | 4 => ("EachRoadOnce$Tape", "start", "I", false)
  | _ => ("EachRoadOnce$Tape", "end", "I", false)
def tyX4 : Nat → FieldType := fun k => match k with
  | 0 => .array .int
  | 1 => .int
  | 2 => .int
  | 3 => .int
  | 4 => .int
  | _ => .int
abbrev wsX40 : List Cond := u_ws RX4 TX4 6
theorem nmX4 : ∀ a, a < 6 → ∀ b, b < 6 → a ≠ b → (TX4 a).2.1 ≠ (TX4 b).2.1 := by decide +kernel
theorem tyX4_ok : ∀ k, k < 6 → parseFieldDescriptor (TX4 k).2.2.1 = some (tyX4 k) := by decide +kernel
abbrev cX4_init : ByteArray := prog_6_method_1_code
def yX4_init : MethodName := ⟨RX4, "<init>", "()V"⟩
abbrev cX4_append : ByteArray := prog_6_method_2_code
def yX4_append : MethodName := ⟨RX4, "append", "(II)V"⟩
abbrev cX4_readOnto : ByteArray := prog_6_method_3_code
def yX4_readOnto : MethodName := ⟨RX4, "readOnto", "(LEachRoadOnce$Land;)I"⟩
abbrev cX4_readStatement : ByteArray := prog_6_method_4_code
def yX4_readStatement : MethodName := ⟨RX4, "readStatement", "(LEachRoadOnce$Land;)V"⟩
abbrev cX4_readRoad : ByteArray := prog_6_method_5_code
def yX4_readRoad : MethodName := ⟨RX4, "readRoad", "(LEachRoadOnce$Land;)V"⟩
abbrev cX4_readOne : ByteArray := prog_6_method_6_code
def yX4_readOne : MethodName := ⟨RX4, "readOne", "(LEachRoadOnce$Land;)V"⟩
abbrev cX4_readGone : ByteArray := prog_6_method_7_code
def yX4_readGone : MethodName := ⟨RX4, "readGone", "(LEachRoadOnce$Land;)V"⟩
abbrev cX4_readAt : ByteArray := prog_6_method_8_code
def yX4_readAt : MethodName := ⟨RX4, "readAt", "(LEachRoadOnce$Land;)V"⟩
abbrev cX4_readAnew : ByteArray := prog_6_method_9_code
def yX4_readAnew : MethodName := ⟨RX4, "readAnew", "(LEachRoadOnce$Land;)V"⟩
abbrev cX4_readShut : ByteArray := prog_6_method_10_code
def yX4_readShut : MethodName := ⟨RX4, "readShut", "(LEachRoadOnce$Land;)V"⟩
abbrev cX4_stopHere : ByteArray := prog_6_method_11_code
def yX4_stopHere : MethodName := ⟨RX4, "stopHere", "()V"⟩
abbrev cX4_takes : ByteArray := prog_6_method_12_code
def yX4_takes : MethodName := ⟨RX4, "takes", "(Ljava/lang/String;Z)Z"⟩
abbrev cX4_takeNumber : ByteArray := prog_6_method_13_code
def yX4_takeNumber : MethodName := ⟨RX4, "takeNumber", "(III)I"⟩
abbrev cX4_numberHere : ByteArray := prog_6_method_14_code
def yX4_numberHere : MethodName := ⟨RX4, "numberHere", "()I"⟩
abbrev cX4_advance : ByteArray := prog_6_method_15_code
def yX4_advance : MethodName := ⟨RX4, "advance", "()V"⟩
abbrev cX4_sortAt : ByteArray := prog_6_method_16_code
def yX4_sortAt : MethodName := ⟨RX4, "sortAt", "(I)I"⟩
def RX5 : String := "EachRoadOnce$Trails"
def TX5 : u_T := fun k => match k with
  | 0 => ("EachRoadOnce$Trails", "ends", "[I", true)
  | 1 => ("EachRoadOnce$Trails", "miles", "[I", true)
  | 2 => ("EachRoadOnce$Trails", "sums", "[I", true)
  | 3 => ("EachRoadOnce$Trails", "roadsAt", "[I", true)
  | 4 => ("EachRoadOnce$Trails", "count", "I", false)
  | 5 => ("EachRoadOnce$Trails", "start", "I", false)
  | _ => ("EachRoadOnce$Trails", "table", "[I", true)
def tyX5 : Nat → FieldType := fun k => match k with
  | 0 => .array .int
  | 1 => .array .int
  | 2 => .array .int
  | 3 => .array .int
  | 4 => .int
  | 5 => .int
  | _ => .array .int
abbrev wsX50 : List Cond := u_ws RX5 TX5 7
theorem nmX5 : ∀ a, a < 7 → ∀ b, b < 7 → a ≠ b → (TX5 a).2.1 ≠ (TX5 b).2.1 := by decide +kernel
theorem tyX5_ok : ∀ k, k < 7 → parseFieldDescriptor (TX5 k).2.2.1 = some (tyX5 k) := by decide +kernel
abbrev cX5_init : ByteArray := prog_7_method_1_code
def yX5_init : MethodName := ⟨RX5, "<init>", "()V"⟩
abbrev cX5_take : ByteArray := prog_7_method_2_code
def yX5_take : MethodName := ⟨RX5, "take", "(LEachRoadOnce$Land;I)V"⟩
abbrev cX5_spread : ByteArray := prog_7_method_3_code
def yX5_spread : MethodName := ⟨RX5, "spread", "(ILEachRoadOnce$Shelf;I)V"⟩
abbrev cX5_spreadFrom : ByteArray := prog_7_method_4_code
def yX5_spreadFrom : MethodName := ⟨RX5, "spreadFrom", "(ILEachRoadOnce$Shelf;I)V"⟩
abbrev cX5_metAt : ByteArray := prog_7_method_5_code
def yX5_metAt : MethodName := ⟨RX5, "metAt", "(IILEachRoadOnce$Shelf;I)I"⟩
abbrev cX5_longestBy : ByteArray := prog_7_method_6_code
def yX5_longestBy : MethodName := ⟨RX5, "longestBy", "(I)I"⟩
abbrev cX5_lengthOf : ByteArray := prog_7_method_7_code
def yX5_lengthOf : MethodName := ⟨RX5, "lengthOf", "(II)I"⟩
abbrev cX5_mostMet : ByteArray := prog_7_method_8_code
def yX5_mostMet : MethodName := ⟨RX5, "mostMet", "()I"⟩
def RX6 : String := "EachRoadOnce"
def TX6 : u_T := fun k => match k with
  | 0 => ("EachRoadOnce", "now", "LEachRoadOnce$Land;", true)
  | 1 => ("EachRoadOnce", "kept", "LEachRoadOnce$Land;", true)
  | 2 => ("EachRoadOnce", "trial", "LEachRoadOnce$Land;", true)
  | 3 => ("EachRoadOnce", "tape", "LEachRoadOnce$Tape;", true)
  | 4 => ("EachRoadOnce", "shelves", "[LEachRoadOnce$Shelf;", true)
  | 5 => ("EachRoadOnce", "trails", "LEachRoadOnce$Trails;", true)
  | 6 => ("EachRoadOnce", "milesOfOne", "[I", true)
  | 7 => ("EachRoadOnce", "milesOfOther", "[I", true)
  | 8 => ("EachRoadOnce", "refusals", "[I", true)
  | _ => ("EachRoadOnce", "hasKept", "Z", false)
def tyX6 : Nat → FieldType := fun k => match k with
  | 0 => .object "EachRoadOnce$Land"
  | 1 => .object "EachRoadOnce$Land"
  | 2 => .object "EachRoadOnce$Land"
  | 3 => .object "EachRoadOnce$Tape"
  | 4 => .array (.object "EachRoadOnce$Shelf")
  | 5 => .object "EachRoadOnce$Trails"
  | 6 => .array .int
  | 7 => .array .int
  | 8 => .array .int
  | _ => .boolean
abbrev wsX60 : List Cond := u_ws RX6 TX6 10
theorem nmX6 : ∀ a, a < 10 → ∀ b, b < 10 → a ≠ b → (TX6 a).2.1 ≠ (TX6 b).2.1 := by decide +kernel
theorem tyX6_ok : ∀ k, k < 10 → parseFieldDescriptor (TX6 k).2.2.1 = some (tyX6 k) := by decide +kernel
abbrev cX6_init : ByteArray := prog_1_method_1_code
def yX6_init : MethodName := ⟨RX6, "<init>", "()V"⟩
abbrev cX6_row : ByteArray := prog_1_method_2_code
def yX6_row : MethodName := ⟨RX6, "row", "(III)I"⟩
abbrev cX6_set : ByteArray := prog_1_method_3_code
def yX6_set : MethodName := ⟨RX6, "set", "(IIJ)I"⟩
abbrev cX6_copy : ByteArray := prog_1_method_4_code
def yX6_copy : MethodName := ⟨RX6, "copy", "(IIIII)I"⟩
abbrev cX6_element : ByteArray := prog_1_method_5_code
def yX6_element : MethodName := ⟨RX6, "element", "(II)J"⟩
abbrev cX6_holds : ByteArray := prog_1_method_6_code
def yX6_holds : MethodName := ⟨RX6, "holds", "(I)I"⟩
abbrev cX6_rule : ByteArray := prog_1_method_7_code
def yX6_rule : MethodName := ⟨RX6, "rule", "(III)I"⟩
abbrev cX6_says : ByteArray := prog_1_method_8_code
def yX6_says : MethodName := ⟨RX6, "says", "(II)I"⟩
abbrev cX6_road : ByteArray := prog_1_method_9_code
def yX6_road : MethodName := ⟨RX6, "road", "(IIIZ)I"⟩
abbrev cX6_one : ByteArray := prog_1_method_10_code
def yX6_one : MethodName := ⟨RX6, "one", "(I)I"⟩
abbrev cX6_shut : ByteArray := prog_1_method_11_code
def yX6_shut : MethodName := ⟨RX6, "shut", "(IZ)I"⟩
abbrev cX6_anew : ByteArray := prog_1_method_12_code
def yX6_anew : MethodName := ⟨RX6, "anew", "(I)I"⟩
abbrev cX6_feed : ByteArray := prog_1_method_13_code
def yX6_feed : MethodName := ⟨RX6, "feed", "(II)I"⟩
abbrev cX6_wipe : ByteArray := prog_1_method_14_code
def yX6_wipe : MethodName := ⟨RX6, "wipe", "()I"⟩
abbrev cX6_land : ByteArray := prog_1_method_15_code
def yX6_land : MethodName := ⟨RX6, "land", "()I"⟩
abbrev cX6_roadOf : ByteArray := prog_1_method_16_code
def yX6_roadOf : MethodName := ⟨RX6, "roadOf", "(II)I"⟩
abbrev cX6_oneOf : ByteArray := prog_1_method_17_code
def yX6_oneOf : MethodName := ⟨RX6, "oneOf", "(II)I"⟩
abbrev cX6_when : ByteArray := prog_1_method_18_code
def yX6_when : MethodName := ⟨RX6, "when", "(II)I"⟩
abbrev cX6_left : ByteArray := prog_1_method_19_code
def yX6_left : MethodName := ⟨RX6, "left", "(I)I"⟩
abbrev cX6_here : ByteArray := prog_1_method_20_code
def yX6_here : MethodName := ⟨RX6, "here", "(I)I"⟩
abbrev cX6_reach : ByteArray := prog_1_method_21_code
def yX6_reach : MethodName := ⟨RX6, "reach", "(I)I"⟩
abbrev cX6_safe : ByteArray := prog_1_method_22_code
def yX6_safe : MethodName := ⟨RX6, "safe", "(I)I"⟩
abbrev cX6_go : ByteArray := prog_1_method_23_code
def yX6_go : MethodName := ⟨RX6, "go", "(II)I"⟩
abbrev cX6_year : ByteArray := prog_1_method_24_code
def yX6_year : MethodName := ⟨RX6, "year", "()I"⟩
abbrev cX6_next : ByteArray := prog_1_method_25_code
def yX6_next : MethodName := ⟨RX6, "next", "(II)I"⟩
abbrev cX6_run : ByteArray := prog_1_method_26_code
def yX6_run : MethodName := ⟨RX6, "run", "(IIII)I"⟩
abbrev cX6_head : ByteArray := prog_1_method_27_code
def yX6_head : MethodName := ⟨RX6, "head", "(I)I"⟩
abbrev cX6_lives : ByteArray := prog_1_method_28_code
def yX6_lives : MethodName := ⟨RX6, "lives", "(III)I"⟩
abbrev cX6_judge : ByteArray := prog_1_method_29_code
def yX6_judge : MethodName := ⟨RX6, "judge", "(III)I"⟩
abbrev cX6_told : ByteArray := prog_1_method_30_code
def yX6_told : MethodName := ⟨RX6, "told", "(IIII)I"⟩
abbrev cX6_law : ByteArray := prog_1_method_31_code
def yX6_law : MethodName := ⟨RX6, "law", "(II)I"⟩
abbrev cX6_all : ByteArray := prog_1_method_32_code
def yX6_all : MethodName := ⟨RX6, "all", "(I)I"⟩
abbrev cX6_way : ByteArray := prog_1_method_33_code
def yX6_way : MethodName := ⟨RX6, "way", "(II)I"⟩
abbrev cX6_lacks : ByteArray := prog_1_method_34_code
def yX6_lacks : MethodName := ⟨RX6, "lacks", "(I)I"⟩
abbrev cX6_longest : ByteArray := prog_1_method_35_code
def yX6_longest : MethodName := ⟨RX6, "longest", "(II)I"⟩
abbrev cX6_errands : ByteArray := prog_1_method_36_code
def yX6_errands : MethodName := ⟨RX6, "errands", "(III)I"⟩
abbrev cX6_cut : ByteArray := prog_1_method_37_code
def yX6_cut : MethodName := ⟨RX6, "cut", "(III)I"⟩
abbrev cX6_meets : ByteArray := prog_1_method_38_code
def yX6_meets : MethodName := ⟨RX6, "meets", "(III)I"⟩
abbrev cX6_near : ByteArray := prog_1_method_39_code
def yX6_near : MethodName := ⟨RX6, "near", "(II)I"⟩
abbrev cX6_together : ByteArray := prog_1_method_40_code
def yX6_together : MethodName := ⟨RX6, "together", "(III)I"⟩
abbrev cX6_frees : ByteArray := prog_1_method_41_code
def yX6_frees : MethodName := ⟨RX6, "frees", "(I)I"⟩
abbrev cX6_send : ByteArray := prog_1_method_42_code
def yX6_send : MethodName := ⟨RX6, "send", "(II)I"⟩
abbrev cX6_fast : ByteArray := prog_1_method_43_code
def yX6_fast : MethodName := ⟨RX6, "fast", "(Z)I"⟩
abbrev cX6_wander : ByteArray := prog_1_method_44_code
def yX6_wander : MethodName := ⟨RX6, "wander", "(II)I"⟩
abbrev cX6_seed : ByteArray := prog_1_method_45_code
def yX6_seed : MethodName := ⟨RX6, "seed", "(I)I"⟩
abbrev cX6_image : ByteArray := prog_1_method_46_code
def yX6_image : MethodName := ⟨RX6, "image", "()I"⟩
abbrev cX6_back : ByteArray := prog_1_method_47_code
def yX6_back : MethodName := ⟨RX6, "back", "()I"⟩
abbrev cX6_status : ByteArray := prog_1_method_48_code
def yX6_status : MethodName := ⟨RX6, "status", "(I)I"⟩
abbrev cX6_refuse : ByteArray := prog_1_method_49_code
def yX6_refuse : MethodName := ⟨RX6, "refuse", "(I)I"⟩
abbrev cX6_isBetween : ByteArray := prog_1_method_50_code
def yX6_isBetween : MethodName := ⟨RX6, "isBetween", "(III)Z"⟩
abbrev cX6_has : ByteArray := prog_1_method_51_code
def yX6_has : MethodName := ⟨RX6, "has", "(II)Z"⟩
abbrev cX6_isShelf : ByteArray := prog_1_method_52_code
def yX6_isShelf : MethodName := ⟨RX6, "isShelf", "(I)Z"⟩
abbrev cX6_isPlace : ByteArray := prog_1_method_53_code
def yX6_isPlace : MethodName := ⟨RX6, "isPlace", "(I)Z"⟩
abbrev cX6_isRoad : ByteArray := prog_1_method_54_code
def yX6_isRoad : MethodName := ⟨RX6, "isRoad", "(I)Z"⟩
abbrev cX6_isOne : ByteArray := prog_1_method_55_code
def yX6_isOne : MethodName := ⟨RX6, "isOne", "(I)Z"⟩
abbrev cX6_rowTrouble : ByteArray := prog_1_method_56_code
def yX6_rowTrouble : MethodName := ⟨RX6, "rowTrouble", "(I)I"⟩
abbrev cX6_ruleTrouble : ByteArray := prog_1_method_57_code
def yX6_ruleTrouble : MethodName := ⟨RX6, "ruleTrouble", "(I)I"⟩
abbrev cX6_stretchTrouble : ByteArray := prog_1_method_58_code
def yX6_stretchTrouble : MethodName := ⟨RX6, "stretchTrouble", "(II)I"⟩
abbrev cX6_copyTrouble : ByteArray := prog_1_method_59_code
def yX6_copyTrouble : MethodName := ⟨RX6, "copyTrouble", "(LEachRoadOnce$Shelf;LEachRoadOnce$Shelf;)I"⟩
abbrev cX6_firstNotGone : ByteArray := prog_1_method_60_code
def yX6_firstNotGone : MethodName := ⟨RX6, "firstNotGone", "(ILEachRoadOnce$Shelf;I)I"⟩
abbrev cX6_meetingPlace : ByteArray := prog_1_method_61_code
def yX6_meetingPlace : MethodName := ⟨RX6, "meetingPlace", "(II)I"⟩
abbrev cX6_filledShelves : ByteArray := prog_1_method_62_code
def yX6_filledShelves : MethodName := ⟨RX6, "filledShelves", "()I"⟩
def RX7 : String := "EachRoadOnceModel"
def TX7 : u_T := fun k => match k with
  | 0 => ("EachRoadOnceModel", "shelf", "[I", true)
  | 1 => ("EachRoadOnceModel", "rowSort", "[I", true)
  | 2 => ("EachRoadOnceModel", "rowSize", "[I", true)
  | 3 => ("EachRoadOnceModel", "rows", "[[J", true)
  | 4 => ("EachRoadOnceModel", "moved", "[J", true)
  | 5 => ("EachRoadOnceModel", "ruleKind", "[I", true)
  | 6 => ("EachRoadOnceModel", "ruleBy", "[I", true)
  | 7 => ("EachRoadOnceModel", "tape", "[I", true)
  | 8 => ("EachRoadOnceModel", "tapeSize", "I", false)
  | 9 => ("EachRoadOnceModel", "refused", "[I", true)
  | 10 => ("EachRoadOnceModel", "roads", "I", false)
  | 11 => ("EachRoadOnceModel", "road", "[[I", true)
  | 12 => ("EachRoadOnceModel", "people", "I", false)
  | 13 => ("EachRoadOnceModel", "one", "[[I", true)
  | 14 => ("EachRoadOnceModel", "last", "[[I", true)
  | 15 => ("EachRoadOnceModel", "year", "I", false)
  | 16 => ("EachRoadOnceModel", "anew", "I", false)
  | 17 => ("EachRoadOnceModel", "seed", "I", false)
  | 18 => ("EachRoadOnceModel", "kept", "LEachRoadOnceModel;", false)
  | 19 => ("EachRoadOnceModel", "tried", "LEachRoadOnceModel;", false)
  | 20 => ("EachRoadOnceModel", "at", "I", false)
  | 21 => ("EachRoadOnceModel", "token", "I", false)
  | 22 => ("EachRoadOnceModel", "from", "I", false)
  | 23 => ("EachRoadOnceModel", "figures", "J", false)
  | 24 => ("EachRoadOnceModel", "fault", "I", false)
  | 25 => ("EachRoadOnceModel", "told", "[I", true)
  | 26 => ("EachRoadOnceModel", "statements", "I", false)
  | 27 => ("EachRoadOnceModel", "runMiles", "I", false)
  | 28 => ("EachRoadOnceModel", "toldBeen", "I", false)
  | 29 => ("EachRoadOnceModel", "these", "[I", true)
  | 30 => ("EachRoadOnceModel", "ends", "[I", true)
  | 31 => ("EachRoadOnceModel", "flow", "[I", true)
  | 32 => ("EachRoadOnceModel", "came", "[I", true)
  | 33 => ("EachRoadOnceModel", "cutSet", "I", false)
  | 34 => ("EachRoadOnceModel", "met", "[[I", true)
  | 35 => ("EachRoadOnceModel", "miles", "[I", true)
  | _ => ("EachRoadOnceModel", "others", "[I", true)
def tyX7 : Nat → FieldType := fun k => match k with
  | 0 => .array .int
  | 1 => .array .int
  | 2 => .array .int
  | 3 => .array (.array .long)
  | 4 => .array .long
  | 5 => .array .int
  | 6 => .array .int
  | 7 => .array .int
  | 8 => .int
  | 9 => .array .int
  | 10 => .int
  | 11 => .array (.array .int)
  | 12 => .int
  | 13 => .array (.array .int)
  | 14 => .array (.array .int)
  | 15 => .int
  | 16 => .int
  | 17 => .int
  | 18 => .object "EachRoadOnceModel"
  | 19 => .object "EachRoadOnceModel"
  | 20 => .int
  | 21 => .int
  | 22 => .int
  | 23 => .long
  | 24 => .int
  | 25 => .array .int
  | 26 => .int
  | 27 => .int
  | 28 => .int
  | 29 => .array .int
  | 30 => .array .int
  | 31 => .array .int
  | 32 => .array .int
  | 33 => .int
  | 34 => .array (.array .int)
  | 35 => .array .int
  | _ => .array .int
abbrev wsX70 : List Cond := u_ws RX7 TX7 37
theorem nmX7 : ∀ a, a < 37 → ∀ b, b < 37 → a ≠ b → (TX7 a).2.1 ≠ (TX7 b).2.1 := by decide +kernel
theorem tyX7_ok : ∀ k, k < 37 → parseFieldDescriptor (TX7 k).2.2.1 = some (tyX7 k) := by decide +kernel
abbrev cX7_init : ByteArray := prog_9_method_1_code
def yX7_init : MethodName := ⟨RX7, "<init>", "()V"⟩
abbrev cX7_refuse : ByteArray := prog_9_method_2_code
def yX7_refuse : MethodName := ⟨RX7, "refuse", "(I)I"⟩
abbrev cX7_in : ByteArray := prog_9_method_3_code
def yX7_in : MethodName := ⟨RX7, "in", "(JJJ)Z"⟩
abbrev cX7_isRoad : ByteArray := prog_9_method_4_code
def yX7_isRoad : MethodName := ⟨RX7, "isRoad", "(J)Z"⟩
abbrev cX7_isOne : ByteArray := prog_9_method_5_code
def yX7_isOne : MethodName := ⟨RX7, "isOne", "(I)Z"⟩
abbrev cX7_isPlace : ByteArray := prog_9_method_6_code
def yX7_isPlace : MethodName := ⟨RX7, "isPlace", "(J)Z"⟩
abbrev cX7_bits : ByteArray := prog_9_method_7_code
def yX7_bits : MethodName := ⟨RX7, "bits", "(I)I"⟩
abbrev cX7_row : ByteArray := prog_9_method_8_code
def yX7_row : MethodName := ⟨RX7, "row", "(III)I"⟩
abbrev cX7_fit : ByteArray := prog_9_method_9_code
def yX7_fit : MethodName := ⟨RX7, "fit", "(IJ)J"⟩
abbrev cX7_noRow : ByteArray := prog_9_method_10_code
def yX7_noRow : MethodName := ⟨RX7, "noRow", "(I)I"⟩
abbrev cX7_noRule : ByteArray := prog_9_method_11_code
def yX7_noRule : MethodName := ⟨RX7, "noRule", "(I)I"⟩
abbrev cX7_set : ByteArray := prog_9_method_12_code
def yX7_set : MethodName := ⟨RX7, "set", "(IIJ)I"⟩
abbrev cX7_copy : ByteArray := prog_9_method_13_code
def yX7_copy : MethodName := ⟨RX7, "copy", "(IIIII)I"⟩
abbrev cX7_element : ByteArray := prog_9_method_14_code
def yX7_element : MethodName := ⟨RX7, "element", "(II)J"⟩
abbrev cX7_holds : ByteArray := prog_9_method_15_code
def yX7_holds : MethodName := ⟨RX7, "holds", "(I)I"⟩
abbrev cX7_rule : ByteArray := prog_9_method_16_code
def yX7_rule : MethodName := ⟨RX7, "rule", "(III)I"⟩
abbrev cX7_isUnder : ByteArray := prog_9_method_17_code
def yX7_isUnder : MethodName := ⟨RX7, "isUnder", "(II)Z"⟩
abbrev cX7_says : ByteArray := prog_9_method_18_code
def yX7_says : MethodName := ⟨RX7, "says", "(II)I"⟩
abbrev cX7_road : ByteArray := prog_9_method_19_code
def yX7_road : MethodName := ⟨RX7, "road", "(IIIZ)I"⟩
abbrev cX7_newRoad : ByteArray := prog_9_method_20_code
def yX7_newRoad : MethodName := ⟨RX7, "newRoad", "()V"⟩
abbrev cX7_newOne : ByteArray := prog_9_method_21_code
def yX7_newOne : MethodName := ⟨RX7, "newOne", "(I)V"⟩
abbrev cX7_one : ByteArray := prog_9_method_22_code
def yX7_one : MethodName := ⟨RX7, "one", "(I)I"⟩
abbrev cX7_shut : ByteArray := prog_9_method_23_code
def yX7_shut : MethodName := ⟨RX7, "shut", "(IZ)I"⟩
abbrev cX7_anew : ByteArray := prog_9_method_24_code
def yX7_anew : MethodName := ⟨RX7, "anew", "(I)I"⟩
abbrev cX7_feed : ByteArray := prog_9_method_25_code
def yX7_feed : MethodName := ⟨RX7, "feed", "(II)I"⟩
abbrev cX7_wipe : ByteArray := prog_9_method_26_code
def yX7_wipe : MethodName := ⟨RX7, "wipe", "()I"⟩
abbrev cX7_isLetter : ByteArray := prog_9_method_27_code
def yX7_isLetter : MethodName := ⟨RX7, "isLetter", "(I)Z"⟩
abbrev cX7_isDigit : ByteArray := prog_9_method_28_code
def yX7_isDigit : MethodName := ⟨RX7, "isDigit", "(I)Z"⟩
abbrev cX7_look : ByteArray := prog_9_method_29_code
def yX7_look : MethodName := ⟨RX7, "look", "()V"⟩
abbrev cX7_wrong : ByteArray := prog_9_method_30_code
def yX7_wrong : MethodName := ⟨RX7, "wrong", "()Z"⟩
abbrev cX7_isWord : ByteArray := prog_9_method_31_code
def yX7_isWord : MethodName := ⟨RX7, "isWord", "(Ljava/lang/String;)Z"⟩
abbrev cX7_number : ByteArray := prog_9_method_32_code
def yX7_number : MethodName := ⟨RX7, "number", "(III)Z"⟩
abbrev cX7_tells : ByteArray := prog_9_method_33_code
def yX7_tells : MethodName := ⟨RX7, "tells", "(Ljava/lang/String;III)Z"⟩
abbrev cX7_roadTold : ByteArray := prog_9_method_34_code
def yX7_roadTold : MethodName := ⟨RX7, "roadTold", "()Z"⟩
abbrev cX7_statement : ByteArray := prog_9_method_35_code
def yX7_statement : MethodName := ⟨RX7, "statement", "()Z"⟩
abbrev cX7_readAll : ByteArray := prog_9_method_36_code
def yX7_readAll : MethodName := ⟨RX7, "readAll", "()Z"⟩
abbrev cX7_land : ByteArray := prog_9_method_37_code
def yX7_land : MethodName := ⟨RX7, "land", "()I"⟩
abbrev cX7_roadOf : ByteArray := prog_9_method_38_code
def yX7_roadOf : MethodName := ⟨RX7, "roadOf", "(II)I"⟩
abbrev cX7_oneOf : ByteArray := prog_9_method_39_code
def yX7_oneOf : MethodName := ⟨RX7, "oneOf", "(II)I"⟩
abbrev cX7_when : ByteArray := prog_9_method_40_code
def yX7_when : MethodName := ⟨RX7, "when", "(II)I"⟩
abbrev cX7_isLeft : ByteArray := prog_9_method_41_code
def yX7_isLeft : MethodName := ⟨RX7, "isLeft", "(II)Z"⟩
abbrev cX7_leftTo : ByteArray := prog_9_method_42_code
def yX7_leftTo : MethodName := ⟨RX7, "leftTo", "(I)I"⟩
abbrev cX7_isAt : ByteArray := prog_9_method_43_code
def yX7_isAt : MethodName := ⟨RX7, "isAt", "(II)Z"⟩
abbrev cX7_otherOf : ByteArray := prog_9_method_44_code
def yX7_otherOf : MethodName := ⟨RX7, "otherOf", "(II)I"⟩
abbrev cX7_hereOf : ByteArray := prog_9_method_45_code
def yX7_hereOf : MethodName := ⟨RX7, "hereOf", "(I)I"⟩
abbrev cX7_reachBy : ByteArray := prog_9_method_46_code
def yX7_reachBy : MethodName := ⟨RX7, "reachBy", "(II)I"⟩
abbrev cX7_isSafe : ByteArray := prog_9_method_47_code
def yX7_isSafe : MethodName := ⟨RX7, "isSafe", "(I)Z"⟩
abbrev cX7_left : ByteArray := prog_9_method_48_code
def yX7_left : MethodName := ⟨RX7, "left", "(I)I"⟩
abbrev cX7_here : ByteArray := prog_9_method_49_code
def yX7_here : MethodName := ⟨RX7, "here", "(I)I"⟩
abbrev cX7_reach : ByteArray := prog_9_method_50_code
def yX7_reach : MethodName := ⟨RX7, "reach", "(I)I"⟩
abbrev cX7_safe : ByteArray := prog_9_method_51_code
def yX7_safe : MethodName := ⟨RX7, "safe", "(I)I"⟩
abbrev cX7_goes : ByteArray := prog_9_method_52_code
def yX7_goes : MethodName := ⟨RX7, "goes", "(II)V"⟩
abbrev cX7_go : ByteArray := prog_9_method_53_code
def yX7_go : MethodName := ⟨RX7, "go", "(II)I"⟩
abbrev cX7_year : ByteArray := prog_9_method_54_code
def yX7_year : MethodName := ⟨RX7, "year", "()I"⟩
abbrev cX7_byMiles : ByteArray := prog_9_method_55_code
def yX7_byMiles : MethodName := ⟨RX7, "byMiles", "(IZ)I"⟩
abbrev cX7_isSafeBehind : ByteArray := prog_9_method_56_code
def yX7_isSafeBehind : MethodName := ⟨RX7, "isSafeBehind", "(II)Z"⟩
abbrev cX7_nextBy : ByteArray := prog_9_method_57_code
def yX7_nextBy : MethodName := ⟨RX7, "nextBy", "(IIII)I"⟩
abbrev cX7_lowest : ByteArray := prog_9_method_58_code
def yX7_lowest : MethodName := ⟨RX7, "lowest", "(I)I"⟩
abbrev cX7_next : ByteArray := prog_9_method_59_code
def yX7_next : MethodName := ⟨RX7, "next", "(II)I"⟩
abbrev cX7_fresh : ByteArray := prog_9_method_60_code
def yX7_fresh : MethodName := ⟨RX7, "fresh", "()LEachRoadOnceModel;"⟩
abbrev cX7_runs : ByteArray := prog_9_method_61_code
def yX7_runs : MethodName := ⟨RX7, "runs", "(IIII)I"⟩
abbrev cX7_run : ByteArray := prog_9_method_62_code
def yX7_run : MethodName := ⟨RX7, "run", "(IIII)I"⟩
abbrev cX7_head : ByteArray := prog_9_method_63_code
def yX7_head : MethodName := ⟨RX7, "head", "(I)I"⟩
abbrev cX7_lives : ByteArray := prog_9_method_64_code
def yX7_lives : MethodName := ⟨RX7, "lives", "(III)I"⟩
abbrev cX7_noTold : ByteArray := prog_9_method_65_code
def yX7_noTold : MethodName := ⟨RX7, "noTold", "(IIII)I"⟩
abbrev cX7_goThrough : ByteArray := prog_9_method_66_code
def yX7_goThrough : MethodName := ⟨RX7, "goThrough", "(III)I"⟩
abbrev cX7_judge : ByteArray := prog_9_method_67_code
def yX7_judge : MethodName := ⟨RX7, "judge", "(III)I"⟩
abbrev cX7_told : ByteArray := prog_9_method_68_code
def yX7_told : MethodName := ⟨RX7, "told", "(IIII)I"⟩
abbrev cX7_theseOf : ByteArray := prog_9_method_69_code
def yX7_theseOf : MethodName := ⟨RX7, "theseOf", "(I)I"⟩
abbrev cX7_oddOf : ByteArray := prog_9_method_70_code
def yX7_oddOf : MethodName := ⟨RX7, "oddOf", "(I)I"⟩
abbrev cX7_endsOf : ByteArray := prog_9_method_71_code
def yX7_endsOf : MethodName := ⟨RX7, "endsOf", "(I)I"⟩
abbrev cX7_law : ByteArray := prog_9_method_72_code
def yX7_law : MethodName := ⟨RX7, "law", "(II)I"⟩
abbrev cX7_inOne : ByteArray := prog_9_method_73_code
def yX7_inOne : MethodName := ⟨RX7, "inOne", "(II)I"⟩
abbrev cX7_all : ByteArray := prog_9_method_74_code
def yX7_all : MethodName := ⟨RX7, "all", "(I)I"⟩
abbrev cX7_way : ByteArray := prog_9_method_75_code
def yX7_way : MethodName := ⟨RX7, "way", "(II)I"⟩
abbrev cX7_goesOn : ByteArray := prog_9_method_76_code
def yX7_goesOn : MethodName := ⟨RX7, "goesOn", "(III)Z"⟩
abbrev cX7_lacks : ByteArray := prog_9_method_77_code
def yX7_lacks : MethodName := ⟨RX7, "lacks", "(I)I"⟩
abbrev cX7_listOf : ByteArray := prog_9_method_78_code
def yX7_listOf : MethodName := ⟨RX7, "listOf", "(I)I"⟩
abbrev cX7_longest : ByteArray := prog_9_method_79_code
def yX7_longest : MethodName := ⟨RX7, "longest", "(II)I"⟩
abbrev cX7_findWay : ByteArray := prog_9_method_80_code
def yX7_findWay : MethodName := ⟨RX7, "findWay", "(II)I"⟩
abbrev cX7_findFlow : ByteArray := prog_9_method_81_code
def yX7_findFlow : MethodName := ⟨RX7, "findFlow", "(III)I"⟩
abbrev cX7_areTwo : ByteArray := prog_9_method_82_code
def yX7_areTwo : MethodName := ⟨RX7, "areTwo", "(III)Z"⟩
abbrev cX7_errands : ByteArray := prog_9_method_83_code
def yX7_errands : MethodName := ⟨RX7, "errands", "(III)I"⟩
abbrev cX7_cut : ByteArray := prog_9_method_84_code
def yX7_cut : MethodName := ⟨RX7, "cut", "(III)I"⟩
abbrev cX7_meetsAt : ByteArray := prog_9_method_85_code
def yX7_meetsAt : MethodName := ⟨RX7, "meetsAt", "(IIII)I"⟩
abbrev cX7_meets : ByteArray := prog_9_method_86_code
def yX7_meets : MethodName := ⟨RX7, "meets", "(III)I"⟩
abbrev cX7_findMiles : ByteArray := prog_9_method_87_code
def yX7_findMiles : MethodName := ⟨RX7, "findMiles", "(I[I)V"⟩
abbrev cX7_near : ByteArray := prog_9_method_88_code
def yX7_near : MethodName := ⟨RX7, "near", "(II)I"⟩
abbrev cX7_together : ByteArray := prog_9_method_89_code
def yX7_together : MethodName := ⟨RX7, "together", "(III)I"⟩
abbrev cX7_frees : ByteArray := prog_9_method_90_code
def yX7_frees : MethodName := ⟨RX7, "frees", "(I)I"⟩
abbrev cX7_send : ByteArray := prog_9_method_91_code
def yX7_send : MethodName := ⟨RX7, "send", "(II)I"⟩
abbrev cX7_fast : ByteArray := prog_9_method_92_code
def yX7_fast : MethodName := ⟨RX7, "fast", "(Z)I"⟩
abbrev cX7_draw : ByteArray := prog_9_method_93_code
def yX7_draw : MethodName := ⟨RX7, "draw", "(I)I"⟩
abbrev cX7_wander : ByteArray := prog_9_method_94_code
def yX7_wander : MethodName := ⟨RX7, "wander", "(II)I"⟩
abbrev cX7_seed : ByteArray := prog_9_method_95_code
def yX7_seed : MethodName := ⟨RX7, "seed", "(I)I"⟩
abbrev cX7_overAll : ByteArray := prog_9_method_96_code
def yX7_overAll : MethodName := ⟨RX7, "overAll", "([[I[[I)V"⟩
abbrev cX7_takeFrom : ByteArray := prog_9_method_97_code
def yX7_takeFrom : MethodName := ⟨RX7, "takeFrom", "(LEachRoadOnceModel;)V"⟩
abbrev cX7_image : ByteArray := prog_9_method_98_code
def yX7_image : MethodName := ⟨RX7, "image", "()I"⟩
abbrev cX7_back : ByteArray := prog_9_method_99_code
def yX7_back : MethodName := ⟨RX7, "back", "()I"⟩
abbrev cX7_status : ByteArray := prog_9_method_100_code
def yX7_status : MethodName := ⟨RX7, "status", "(I)I"⟩
def RJ6 : String := "java/lang/Integer"
abbrev cJ6_bitCount_0f7a4 : ByteArray := prog_10_method_49_code
def yJ6_bitCount_0f7a4 : MethodName := ⟨RJ6, "bitCount", "(I)I"⟩
def RJ7 : String := "java/util/Arrays"
abbrev cJ7_rangeCheck_23922 : ByteArray := prog_16_method_30_code
def yJ7_rangeCheck_23922 : MethodName := ⟨RJ7, "rangeCheck", "(III)V"⟩
abbrev cJ7_fill_d0a16 : ByteArray := prog_16_method_101_code
def yJ7_fill_d0a16 : MethodName := ⟨RJ7, "fill", "([JJ)V"⟩
abbrev cJ7_fill_53178 : ByteArray := prog_16_method_103_code
def yJ7_fill_53178 : MethodName := ⟨RJ7, "fill", "([II)V"⟩
abbrev cJ7_fill_fda19 : ByteArray := prog_16_method_104_code
def yJ7_fill_fda19 : MethodName := ⟨RJ7, "fill", "([IIII)V"⟩
end
section
-- general rows: one list of words for every method, one way to begin, to call and to end a contract
/-- the words that stay over a call -/
def gx_T : List Cond := lw_tbl.filter goodWord
theorem gx_in {w : Cond} (h : w ∈ lw_tbl) (hg : goodWord w = true) : w ∈ gx_T := List.mem_filter.mpr ⟨h, hg⟩
theorem gx_good : GoodIn gx_T gx_T := fun w h => ⟨h, good_of_word (List.mem_filter.mp h).2⟩
theorem gx_gcons {w : Cond} {ws : List Cond} (h : w ∈ gx_T) (hs : GoodIn gx_T ws) : GoodIn gx_T (w :: ws) := fun v hv => (List.mem_cons.mp hv).elim (fun e => by subst e; exact gx_good _ h) (fun hh => hs v hh)
theorem gx_gV {own C : String} {i : Nat} {y : MethodName} {bytes : ByteArray} {n : Nat} {r : Option FieldType} (h1 : Cond.methodLink own i y ∈ gx_T) (h2 : Cond.instanceMethod y ∈ gx_T) (h3 : Cond.selects C y y ∈ gx_T) (h4 : Cond.initialized C ∈ gx_T) (h5 : Cond.code y bytes n r ∈ gx_T) : GoodIn gx_T (wsV own i C y (.code y bytes n r :: gx_T)) :=
  gx_gcons h1 (gx_gcons h2 (gx_gcons h3 (gx_gcons h4 (gx_gcons h5 gx_good))))
theorem gx_gS {own : String} {i : Nat} {y : MethodName} {bytes : ByteArray} {n : Nat} {r : Option FieldType} (h1 : Cond.methodLink own i y ∈ gx_T) (h2 : Cond.static y ∈ gx_T) (h4 : Cond.initialized y.cls ∈ gx_T) (h5 : Cond.code y bytes n r ∈ gx_T) : GoodIn gx_T (va_wsS own i y (.code y bytes n r :: gx_T)) :=
  gx_gcons h1 (gx_gcons h2 (gx_gcons h4 (gx_gcons h5 gx_good)))
theorem gx_gI {y : MethodName} {bytes : ByteArray} {n : Nat} {r : Option FieldType} (h5 : Cond.code y bytes n r ∈ gx_T) : GoodIn gx_T (.code y bytes n r :: gx_T) := gx_gcons h5 gx_good
abbrev gx_cl : List vw_C := [(RX1, TX1, 17), (RX3, TX3, 4), (RX4, TX4, 6), (RX5, TX5, 7), (RX6, TX6, 10), (RX7, TX7, 37)]
abbrev gx_ty (k : Nat → ClassId) : List (ClassId × FieldType) := [(k 0, .int), (k 1, .long), (k 2, .object RX3), (k 3, .array .int), (k 4, .array .long)]
def gx_strs : List (String × Nat × String) := [(RX4, 38, "road"), (RX4, 52, "one"), (RX4, 60, "gone"), (RX4, 65, "at"), (RX4, 70, "anew"), (RX4, 75, "shut"), (RX7, 194, "road"), (RX7, 208, "one"), (RX7, 209, "gone"), (RX7, 214, "at"), (RX7, 215, "anew"), (RX7, 216, "shut")]
/-- what the tables say that no word of gx_T says -/
def gx_N (U : State) : Prop := va_Nw (.methodLinkNest RX6 24 yX4_init RX6) U ∧ va_Nw (.methodLinkNest RX6 37 yX5_init RX6) U ∧ va_Nw (.methodLinkNest RX6 52 yX3_init RX6) U ∧ va_AO RX3 U ∧ (Cond.arrayOver (.array .int)).before #[] U = true ∧ (Cond.arrayOver (.array .long)).before #[] U = true ∧ ∀ q ∈ gx_strs, ∃ a : Nat, vk_R q.1 q.2.1 q.2.2 a U
theorem gx_AOA {ty : FieldType} {u U : State} (hvm : u.vm.Alike U.vm) (h : (Cond.arrayOver (.array ty)).before #[] u = true) : (Cond.arrayOver (.array ty)).before #[] U = true := by
  have hi : ∀ comp : ClassId, (U.vm.classes.findIdx? fun (x : Class) => match x.kind with | .array component _ => component == comp | _ => false) = (u.vm.classes.findIdx? fun (x : Class) => match x.kind with | .array component _ => component == comp | _ => false) := by
    intro comp
    have hbe : U.vm.bare = u.vm.bare := by first | exact hvm.bare_eq | exact hvm.bare_eq.symm
    exact (va_idx_bare U.vm comp).symm.trans ((congrArg (fun b : Vm => (b.classes.findIdx? fun (x : Class) => match x.kind with | .array component _ => component == comp | _ => false)) hbe).trans (va_idx_bare u.vm comp))
  simp only [Cond.before, Cond.holds, Cond.value, beq_iff_eq] at h ⊢
  rw [hvm.findClass, hvm.findClass]
  cases hc : u.vm.findClass (FieldType.array ty).toString with
  | none => simp [hc] at h
  | some comp =>
    simp only [hc, Option.bind_some, Option.bind_eq_some_iff, Option.map_eq_some_iff] at h ⊢
    obtain ⟨c, h1, k, h2, h3⟩ := h
    obtain ⟨k', hk', he⟩ := hvm.2.2 _ _ h2
    refine ⟨c, (hi comp).trans h1, k', hk', ?_⟩
    rw [he]
    exact h3
theorem gx_N.same {u U : State} (h : u.vm = U.vm) (hN : gx_N u) : gx_N U := by
  have ha : u.vm.Alike U.vm := by rw [h]; exact Vm.Alike.refl _
  exact ⟨hN.1.same rfl h, hN.2.1.same rfl h, hN.2.2.1.same rfl h, va_AO.moved ha hN.2.2.2.1, gx_AOA ha hN.2.2.2.2.1, gx_AOA ha hN.2.2.2.2.2.1, fun q hq => by
    obtain ⟨a, hz⟩ := hN.2.2.2.2.2.2 q hq
    exact ⟨a, hz.same h.symm⟩⟩
theorem gx_N.warm {s U : State} (hW : s.WarmedH U.vm) (hN : gx_N s) : gx_N U := ⟨hN.1.warmM hW, hN.2.1.warmM hW, hN.2.2.1.warmM hW, va_AO.moved hW.alike hN.2.2.2.1, gx_AOA hW.alike hN.2.2.2.2.1, gx_AOA hW.alike hN.2.2.2.2.2.1, fun q hq => by
    obtain ⟨a, hz⟩ := hN.2.2.2.2.2.2 q hq
    exact ⟨a, hz.warm hW⟩⟩
def gx_K (D : va_G) (k : Nat → ClassId) (U : State) : Prop := va_K D gx_cl (gx_ty k) U ∧ gx_N U
theorem gx_K.warm {D : va_G} {k : Nat → ClassId} {s U : State} (hW : s.WarmedH U.vm) (h : gx_K D k s) : gx_K D k U := ⟨va_K.moved hW.alike h.1, h.2.warm hW⟩
abbrev gx_Pre (D : va_G) (k : Nat → ClassId) (av : List Value) (ws : va_W) (sz : Nat) : Array Value → State → Prop := va_Pc av (fun U => U.heap.size = sz ∧ va_P D gx_cl ws U.heap ∧ gx_K D k U ∧ va_D (fun _ => True) ws)
theorem gx_blind {D : va_G} {k : Nat → ClassId} {av : List Value} {ws : va_W} {sz : Nat} : FrameBlind (gx_Pre D k av ws sz) := fun a U g mk q => ⟨q.1, q.2.1, q.2.2.1, ⟨va_K.moved (u := U) (U := U.calling g mk a) (Vm.Alike.refl U.vm) q.2.2.2.1.1, gx_N.same (u := U) (U := U.calling g mk a) rfl q.2.2.2.1.2⟩, q.2.2.2.2⟩
abbrev gx_Qi (D : va_G) {S : Type} (post : Int32 → S → Prop) (w1 : S → va_W) (A : Nat → Prop) : Array Value → State → Outcome → State → Prop := va_Qi post (fun u t => va_P D gx_cl (w1 u) t.heap ∧ va_D A (w1 u)) A
abbrev gx_Ql (D : va_G) {S : Type} (post : Int64 → S → Prop) (w1 : S → va_W) (A : Nat → Prop) : Array Value → State → Outcome → State → Prop := va_Ql post (fun u t => va_P D gx_cl (w1 u) t.heap ∧ va_D A (w1 u)) A
abbrev gx_Qv (D : va_G) {S : Type} (post : S → Prop) (w1 : S → va_W) (A : Nat → Prop) : Array Value → State → Outcome → State → Prop := va_Qv post (fun u t => va_P D gx_cl (w1 u) t.heap ∧ va_D A (w1 u)) A
abbrev gx_Qr (D : va_G) {S : Type} (post : S → Prop) (w1 : S → Nat → va_W) (A : Nat → Prop) : Array Value → State → Outcome → State → Prop := va_Qr post (fun u a t => va_P D gx_cl (w1 u a) t.heap ∧ va_D A (w1 u a)) A
abbrev gx_No : Nat → Prop := fun _ => False
abbrev gx_Pi (post : Int32 → Prop) : Array Value → State → Outcome → State → Prop := va_Qi (fun r (_ : Unit) => post r) (fun _ _ => True) gx_No
abbrev gx_Pl (post : Int64 → Prop) : Array Value → State → Outcome → State → Prop := va_Ql (fun r (_ : Unit) => post r) (fun _ _ => True) gx_No
/-- what a method's walk stands on -/
def gx_C (p : Program) (s : State) (m : MethodId) (args : Array Value) (meth : Method) (c : Code) (cc : ByteArray) (n : Nat) (ret : Option FieldType) (y : MethodName) : Prop := p.tables.exec = Jvm.exec ∧ c.code = cc ∧ meth.sig.returnType = ret ∧ c.maxLocals = n ∧ s.vm.findClass y.cls = some m.cls ∧ (∀ w ∈ gx_T, w.before args s = true) ∧ meth.locks = false ∧ meth.name = y.name
theorem gx_metE {l : Launch} {y : MethodName} {cc : ByteArray} {n : Nat} {ret : Option FieldType} {rm : Room} {D : va_G} {k : Nat → ClassId} {av : List Value} {ws : va_W} {sz mc ms : Nat} {Qc : (Nat → Prop) → Array Value → State → Outcome → State → Prop} (hy : plainName y.cls = true) (hn : (lg_sl av).length ≤ n)
    (body : ∀ (p : Program) (e : Env) (s : State) (m : MethodId) (below : List Frame) (meth : Method) (c : Code) (A : Nat → Prop) (ls : Array Slot), gx_C p s m av.toArray meth c cc n ret y → (∀ q, s.heap.size ≤ q → A q) → va_P D gx_cl ws s.heap → va_D A ws → gx_K D k s → va_S A s.heap s.heap [] → lv_has ls n (lv_args 0 av) →
      W p l e rm s m av.toArray below meth c s.heap [] 0 0 (MQ below (Qc A) av.toArray s mc ms A) (F0 m 0 ls [])) : Met l y (.code y cc n ret :: gx_T) rm (gx_Pre D k av ws sz) (Qc (va_A ws sz)) mc ms (va_A ws sz) := by
  refine Met.ofW (cc := cc) (maxL := n) (ret := ret) hy rfl ?_
  intro p e s m args below meth c s₁ B hml hv
  obtain ⟨rfl, hsz, hP, hK, hD0⟩ := hv
  subst hsz
  have hts := atoms_spec (ws := Cond.code y cc n ret :: gx_T) B.pre
  rw [lg_entry_eq]
  exact body p e s m below meth c _ _ ⟨B.exec, B.bytes, B.returns, hml, findClass_of_methodNamed B.named, fun w h => hts w (List.mem_cons_of_mem _ h), B.notSynchronized, (name_of_methodNamed B.named B.method).1⟩ (fun q h => Or.inr h) hP hD0.self hK va_S.rf (lv_entry av hn)
theorem gx_metP {l : Launch} {y : MethodName} {cc : ByteArray} {n : Nat} {ret : Option FieldType} {rm : Room} {D : va_G} {k : Nat → ClassId} {av : List Value} {ws : va_W} {sz : Nat} {Qc : Array Value → State → Outcome → State → Prop} (hy : plainName y.cls = true) (hn : (lg_sl av).length ≤ n)
    (body : ∀ (p : Program) (e : Env) (s : State) (m : MethodId) (below : List Frame) (meth : Method) (c : Code) (ls : Array Slot), gx_C p s m av.toArray meth c cc n ret y → va_P D gx_cl ws s.heap → va_D (fun _ => True) ws → gx_K D k s → va_S gx_No s.heap s.heap [] → lv_has ls n (lv_args 0 av) →
      W p l e rm s m av.toArray below meth c s.heap [] 0 0 (MQ below Qc av.toArray s 0 0 gx_No) (F0 m 0 ls [])) : Met l y (.code y cc n ret :: gx_T) rm (gx_Pre D k av ws sz) Qc 0 0 gx_No := by
  refine Met.ofW (cc := cc) (maxL := n) (ret := ret) hy rfl ?_
  intro p e s m args below meth c s₁ B hml hv
  obtain ⟨rfl, hsz, hP, hK, hD0⟩ := hv
  have hts := atoms_spec (ws := Cond.code y cc n ret :: gx_T) B.pre
  rw [lg_entry_eq]
  exact body p e s m below meth c _ ⟨B.exec, B.bytes, B.returns, hml, findClass_of_methodNamed B.named, fun w h => hts w (List.mem_cons_of_mem _ h), B.notSynchronized, (name_of_methodNamed B.named B.method).1⟩ hP hD0 hK va_S.rf (lv_entry av hn)
section GX
variable {p : Program} {l : Launch} {e : Env} {R : Room} {s : State} {m : MethodId} {args : Array Value} {below : List Frame} {meth : Method} {c : Code} {H : Heap} {locs : List Loc} {cells slots : Nat} {Q : State → Prop}
variable {cc : ByteArray} {pc n : Nat} {ls : Array Slot} {rest : List Value} {D : va_G} {A : Nat → Prop} {k : Nat → ClassId} {ws : va_W} {y0 : MethodName} {ret : Option FieldType} {H0 : Heap}
theorem gx_cst {x v : Int32} (h : x = v) (kk : W p l e R s m args below meth c H locs cells slots Q (F0 m pc ls (.int v :: rest))) : W p l e R s m args below meth c H locs cells slots Q (F0 m pc ls (.int x :: rest)) := by
  subst h; exact kk
theorem gx_cstl {x v : Int64} (h : x = v) (kk : W p l e R s m args below meth c H locs cells slots Q (F0 m pc ls (.long v :: rest))) : W p l e R s m args below meth c H locs cells slots Q (F0 m pc ls (.long x :: rest)) := by
  subst h; exact kk
theorem gx_csr {x v : Value} (h : x = v) (kk : W p l e R s m args below meth c H locs cells slots Q (F0 m pc ls (v :: rest))) : W p l e R s m args below meth c H locs cells slots Q (F0 m pc ls (x :: rest)) := by
  subst h; exact kk
theorem gx_retI (C : gx_C p s m args meth c cc n (some .int) y0) {S : Type} {post : Int32 → S → Prop} {w1 : S → va_W} (u : S) (hP : va_P D gx_cl (w1 u) H) (hD : va_D A (w1 u)) (hS : va_S A s.heap H locs) {v : Int32} (hp : post v u) (hdg : decode cc pc = .ok (.ireturn, 1)) : W p l e R s m args below meth c H locs cells slots (MQ below (gx_Qi D post w1 A) args s cells slots A) (F0 m pc ls [.int v]) := by
  obtain ⟨hx, hb, hr, hml, hown, hT, hlk, -⟩ := C
  exact W.iret hx hb hr (fun t ht hW => ⟨⟨v, u, rfl, hp, by rw [ht]; exact hP, hD⟩, hS.F ht⟩) hS.2.2 hdg hlk
theorem gx_retZ (C : gx_C p s m args meth c cc n (some .boolean) y0) {S : Type} {post : Int32 → S → Prop} {w1 : S → va_W} (u : S) (hP : va_P D gx_cl (w1 u) H) (hD : va_D A (w1 u)) (hS : va_S A s.heap H locs) {v : Int32} (hv : narrow .boolean (.int v) = .int v) (hp : post v u) (hdg : decode cc pc = .ok (.ireturn, 1)) : W p l e R s m args below meth c H locs cells slots (MQ below (gx_Qi D post w1 A) args s cells slots A) (F0 m pc ls [.int v]) := by
  obtain ⟨hx, hb, hr, hml, hown, hT, hlk, -⟩ := C
  exact W.zret hx hb hr hv (fun t ht hW => ⟨⟨v, u, rfl, hp, by rw [ht]; exact hP, hD⟩, hS.F ht⟩) hS.2.2 hdg hlk
theorem gx_retV (C : gx_C p s m args meth c cc n none y0) {S : Type} {post : S → Prop} {w1 : S → va_W} (u : S) (hP : va_P D gx_cl (w1 u) H) (hD : va_D A (w1 u)) (hS : va_S A s.heap H locs) (hp : post u) (hdg : decode cc pc = .ok (.return_, 1)) : W p l e R s m args below meth c H locs cells slots (MQ below (gx_Qv D post w1 A) args s cells slots A) (F0 m pc ls []) := by
  obtain ⟨hx, hb, hr, hml, hown, hT, hlk, -⟩ := C
  exact W.vret hx hb hr (fun t ht hW => ⟨⟨u, rfl, hp, by rw [ht]; exact hP, hD⟩, hS.F ht⟩) hS.2.2 hdg hlk
theorem gx_retP (C : gx_C p s m args meth c cc n (some .int) y0) {post : Int32 → Prop} (hS : va_S gx_No s.heap H locs) {v : Int32} (hp : post v) (hdg : decode cc pc = .ok (.ireturn, 1)) : W p l e R s m args below meth c H locs cells slots (MQ below (gx_Pi post) args s cells slots gx_No) (F0 m pc ls [.int v]) := by
  obtain ⟨hx, hb, hr, hml, hown, hT, hlk, -⟩ := C
  exact W.iret hx hb hr (fun t ht hW => ⟨⟨v, (), rfl, hp, trivial⟩, hS.F ht⟩) hS.2.2 hdg hlk
theorem gx_retPZ (C : gx_C p s m args meth c cc n (some .boolean) y0) {post : Int32 → Prop} (hS : va_S gx_No s.heap H locs) {v : Int32} (hv : narrow .boolean (.int v) = .int v) (hp : post v) (hdg : decode cc pc = .ok (.ireturn, 1)) : W p l e R s m args below meth c H locs cells slots (MQ below (gx_Pi post) args s cells slots gx_No) (F0 m pc ls [.int v]) := by
  obtain ⟨hx, hb, hr, hml, hown, hT, hlk, -⟩ := C
  exact W.zret hx hb hr hv (fun t ht hW => ⟨⟨v, (), rfl, hp, trivial⟩, hS.F ht⟩) hS.2.2 hdg hlk
theorem gx_retPL (C : gx_C p s m args meth c cc n (some .long) y0) {post : Int64 → Prop} (hS : va_S gx_No s.heap H locs) {v : Int64} (hp : post v) (hdg : decode cc pc = .ok (.lreturn, 1)) : W p l e R s m args below meth c H locs cells slots (MQ below (gx_Pl post) args s cells slots gx_No) (F0 m pc ls [.long v]) := by
  obtain ⟨hx, hb, hr, hml, hown, hT, hlk, -⟩ := C
  exact W.lret hx hb hr (fun t ht hW => ⟨⟨v, (), rfl, hp, trivial⟩, hS.F ht⟩) hS.2.2 hdg hlk
theorem gx_none (hP : va_P D gx_cl ws H) : va_P D gx_cl [] H := fun k q h => by simp at h
theorem gx_noneD : va_D A [] := ⟨fun i j p q h => by simp at h, fun k q h => by simp at h⟩
theorem gx_nil : va_P D gx_cl [] H := fun k q h => by simp at h
theorem gx_subP {wc : va_W} (hP : va_P D gx_cl ws H) (is : List Nat) (h : is.map (fun i => ws[i]?) = wc.map some) : va_P D gx_cl wc H := by
  intro j q hq
  have h1 : (is.map (fun i => ws[i]?))[j]? = some (some q) := by rw [h, List.getElem?_map, hq]; rfl
  rw [List.getElem?_map] at h1
  cases hi : is[j]? with
  | none => rw [hi] at h1; cases h1
  | some i => rw [hi] at h1; exact hP i q (Option.some.inj h1)
-- ===== calls: the run =====
variable {y : MethodName} {bytes : ByteArray} {maxL mc ms index na ci N : Nat} {rt : Option FieldType} {rm : Room} {Qc : Array Value → State → Outcome → State → Prop} {free : Addr → Prop} {b : Nat} {As st0 : List Value} {wc : va_W} {Cn : String} {fs : List Value} {T : u_T}
theorem gx_runV (C : gx_C p s m args meth c cc n ret y0) (hl : ls.size = n) (hK : gx_K D k s) (hPc : va_P D gx_cl wc H) (hDc : va_D (fun _ => True) wc)
    (hM : Met l y (.code y bytes maxL rt :: gx_T) rm (gx_Pre D k (.ref b :: As) wc H.size) Qc mc ms free) (hG : GoodIn gx_T (wsV y0.cls index Cn y (.code y bytes maxL rt :: gx_T)))
    (hd : y.cls = Cn ∧ y.cls ≠ "java/lang/invoke/MethodHandle" ∧ y.cls ≠ "java/lang/invoke/VarHandle" ∧ (parseMethodDescriptor y.desc).map (fun d => d.parameters.length) = some na) (hrc : rm.cells = mc) (hrs : rm.slots = ms) (hR : rm.frames + 1 ≤ R.frames ∧ 8 + (maxL + 11) + rm.locals ≤ R.locals)
    (hrec : wc[0]? = some (b, .inr (ci, fs))) (hci : gx_cl[ci]? = some (Cn, T, N)) (hna : As.length = na) (hst : st0 = As.reverse ++ .ref b :: rest) (hroom : (rest.map fun v => v.category).sum ≤ 8) (hdg : decode cc pc = .ok (.invokevirtual index, 3)) (hf : cells + mc ≤ R.cells ∧ slots + ms ≤ R.slots) :
    va_Run p l e R s m args below meth c H locs cells slots mc ms (F0 m pc ls st0) rest (Qc (Value.ref b :: As).toArray) free := by
  obtain ⟨hx, hb, hr, hml, hown, hT, hlk, -⟩ := C
  exact va_runV (As := As) (rest := rest) (C := Cn) ⟨hx, hb, hml, hown, hT⟩ hM (cwV na hT hG rfl hrc hrs hd hR) ⟨gx_blind, va_recv hK.1 hPc hci hrec, fun U hU hW => ⟨rfl, by rw [hU], by rw [hU]; exact hPc, hK.warm hW, hDc⟩⟩ rfl hna hl hst (lv_room hroom) hdg hf
theorem gx_runS (C : gx_C p s m args meth c cc n ret y0) (hl : ls.size = n) (hK : gx_K D k s) (hPc : va_P D gx_cl wc H) (hDc : va_D (fun _ => True) wc)
    (hM : Met l y (.code y bytes maxL rt :: gx_T) rm (gx_Pre D k As wc H.size) Qc mc ms free) (hG : GoodIn gx_T (va_wsS y0.cls index y (.code y bytes maxL rt :: gx_T)))
    (hd : y.cls ≠ "java/lang/invoke/MethodHandle" ∧ y.cls ≠ "java/lang/invoke/VarHandle" ∧ (parseMethodDescriptor y.desc).map (fun d => d.parameters.length) = some na) (hrc : rm.cells = mc) (hrs : rm.slots = ms) (hR : rm.frames + 1 ≤ R.frames ∧ 8 + (maxL + 11) + rm.locals ≤ R.locals)
    (hna : As.length = na) (hst : st0 = As.reverse ++ rest) (hroom : (rest.map fun v => v.category).sum ≤ 8) (hdg : decode cc pc = .ok (.invokestatic index, 3)) (hf : cells + mc ≤ R.cells ∧ slots + ms ≤ R.slots) :
    va_Run p l e R s m args below meth c H locs cells slots mc ms (F0 m pc ls st0) rest (Qc As.toArray) free := by
  obtain ⟨hx, hb, hr, hml, hown, hT, hlk, -⟩ := C
  exact va_runS (As := As) (rest := rest) ⟨hx, hb, hml, hown, hT⟩ hM (va_cwS na hT hG rfl hrc hrs hd hR) ⟨gx_blind, fun U hU hW => ⟨rfl, by rw [hU], by rw [hU]; exact hPc, hK.warm hW, hDc⟩⟩ rfl hna hl hst (lv_room hroom) hdg hf
theorem gx_runI (C : gx_C p s m args meth c cc n ret y0) (hl : ls.size = n) (hK : gx_K D k s) (hPc : va_P D gx_cl wc H) (hDc : va_D (fun _ => True) wc)
    (hM : Met l y (.code y bytes maxL none :: gx_T) rm (gx_Pre D k (.ref b :: As) wc H.size) Qc mc ms free) (hG : GoodIn gx_T (.code y bytes maxL none :: gx_T)) (hi : Cond.initialized y.cls ∈ gx_T) (hlk2 : Cond.methodLink y0.cls index y ∈ gx_T) (him : Cond.instanceMethod y ∈ gx_T) (hy1 : y.name = "<init>")
    (hd : y.cls ≠ "java/lang/invoke/MethodHandle" ∧ y.cls ≠ "java/lang/invoke/VarHandle" ∧ (parseMethodDescriptor y.desc).map (fun d => d.parameters.length) = some na) (hrc : rm.cells = mc) (hrs : rm.slots = ms) (hR : rm.frames + 1 ≤ R.frames ∧ 8 + (maxL + 11) + rm.locals ≤ R.locals)
    (hna : As.length = na) (hst : st0 = As.reverse ++ .ref b :: rest) (hroom : (rest.map fun v => v.category).sum ≤ 8) (hdg : decode cc pc = .ok (.invokespecial index, 3)) (hf : cells + mc ≤ R.cells ∧ slots + ms ≤ R.slots) :
    va_Run p l e R s m args below meth c H locs cells slots mc ms (F0 m pc ls st0) rest (Qc (Value.ref b :: As).toArray) free := by
  obtain ⟨hx, hb, hr, hml, hown, hT, hlk, -⟩ := C
  exact va_runI (As := As) (rest := rest) ⟨hx, hb, hml, hown, hT⟩ hM (cwI na hT hG rfl hrc hrs (hT _ hi) (hT _ hlk2) (hT _ him) hy1 hd hR) ⟨gx_blind, fun U hU hW => ⟨rfl, by rw [hU], by rw [hU]; exact hPc, hK.warm hW, hDc⟩⟩ rfl hna hl hst (lv_room hroom) hdg hf
theorem gx_runN (C : gx_C p s m args meth c cc n ret y0) (hl : ls.size = n) (hK : gx_K D k s) (hPc : va_P D gx_cl wc H) (hDc : va_D (fun _ => True) wc) {host : String}
    (hM : Met l y (.code y bytes maxL none :: gx_T) rm (gx_Pre D k (.ref b :: As) wc H.size) Qc mc ms free) (hG : GoodIn gx_T (.code y bytes maxL none :: gx_T)) (hi : Cond.initialized y.cls ∈ gx_T) (hlk2 : va_Nw (.methodLinkNest y0.cls index y host) s) (him : Cond.instanceMethod y ∈ gx_T) (hy1 : y.name = "<init>")
    (hd : y.cls ≠ "java/lang/invoke/MethodHandle" ∧ y.cls ≠ "java/lang/invoke/VarHandle" ∧ (parseMethodDescriptor y.desc).map (fun d => d.parameters.length) = some na) (hrc : rm.cells = mc) (hrs : rm.slots = ms) (hR : rm.frames + 1 ≤ R.frames ∧ 8 + (maxL + 11) + rm.locals ≤ R.locals)
    (hna : As.length = na) (hst : st0 = As.reverse ++ .ref b :: rest) (hroom : (rest.map fun v => v.category).sum ≤ 8) (hdg : decode cc pc = .ok (.invokespecial index, 3)) (hf : cells + mc ≤ R.cells ∧ slots + ms ≤ R.slots) :
    va_Run p l e R s m args below meth c H locs cells slots mc ms (F0 m pc ls st0) rest (Qc (Value.ref b :: As).toArray) free := by
  obtain ⟨hx, hb, hr, hml, hown, hT, hlk, -⟩ := C
  exact va_runIN (As := As) (rest := rest) ⟨hx, hb, hml, hown, hT⟩ hM ⟨va_cnB na hT hG rfl hrc hrs hlk2 (hT _ hi) hd hR, hy1, hT _ him⟩ ⟨gx_blind, fun U hU hW => ⟨rfl, by rw [hU], by rw [hU]; exact hPc, hK.warm hW, hDc⟩⟩ rfl hna hl hst (lv_room hroom) hdg hf
-- ===== calls: what goes on behind them =====
variable {a : Array Value} {wr : va_W} {isC isR : List Nat}
theorem gx_pi {post : Int32 → Prop} (hP : va_P D gx_cl ws H) (hS : va_S A H0 H locs) (hr : va_Run p l e R s m args below meth c H locs cells slots 0 0 (F0 m pc ls st0) rest (gx_Pi post a) gx_No)
    (kk : ∀ (r : Int32) (H1 : Heap) (locs1 : List Loc), post r → va_P D gx_cl ws H1 → va_S A H0 H1 locs1 → W p l e R s m args below meth c H1 locs1 cells slots Q (F0 m (pc + 3) ls (.int r :: rest))) : W p l e R s m args below meth c H locs cells slots Q (F0 m pc ls st0) :=
  va_calli hr hS (fun q _ h => h.elim) (fun q h => h.elim) (fun r u t H1 locs1 ht hvm hp hB hz hk hS1 => kk r H1 locs1 hp (hP.kept (fun i x hx => hk x.1 (hP i x hx).lt (fun h => h))) hS1)
theorem gx_pl {post : Int64 → Prop} (hP : va_P D gx_cl ws H) (hS : va_S A H0 H locs) (hr : va_Run p l e R s m args below meth c H locs cells slots 0 0 (F0 m pc ls st0) rest (gx_Pl post a) gx_No)
    (kk : ∀ (r : Int64) (H1 : Heap) (locs1 : List Loc), post r → va_P D gx_cl ws H1 → va_S A H0 H1 locs1 → W p l e R s m args below meth c H1 locs1 cells slots Q (F0 m (pc + 3) ls (.long r :: rest))) : W p l e R s m args below meth c H locs cells slots Q (F0 m pc ls st0) :=
  va_calll hr hS (fun q _ h => h.elim) (fun q h => h.elim) (fun r u t H1 locs1 ht hvm hp hB hz hk hS1 => kk r H1 locs1 hp (hP.kept (fun i x hx => hk x.1 (hP i x hx).lt (fun h => h))) hS1)
theorem gx_ei {S : Type} {post : Int32 → S → Prop} {w1 : S → va_W} (hP : va_P D gx_cl ws H) (hD : va_D A ws) (hS : va_S A H0 H locs) (hA : ∀ q, H0.size ≤ q → A q) (hC : isC.map (fun i => ws[i]?) = wc.map some) (hR : isR.map (fun i => ws[i]?) = wr.map some) (hn : va_nd isR = true) (hdis : ∀ i ∈ isR, i ∉ isC)
    (hr : va_Run p l e R s m args below meth c H locs cells slots mc ms (F0 m pc ls st0) rest (gx_Qi D post w1 (va_A wc H.size) a) (va_A wc H.size))
    (kk : ∀ (r : Int32) (u : S) (H1 : Heap) (locs1 : List Loc), post r u → va_P D gx_cl (wr ++ w1 u) H1 → va_D A (wr ++ w1 u) → va_S A H0 H1 locs1 → W p l e R s m args below meth c H1 locs1 (cells + mc) (slots + ms) Q (F0 m (pc + 3) ls (.int r :: rest))) : W p l e R s m args below meth c H locs cells slots Q (F0 m pc ls st0) := by
  have hFc := va_free (wc := wc) hD hS hA isC hC
  refine va_calli hr hS (fun q _ h => hFc q h) hFc (fun r u t H1 locs1 ht hvm hp hB hz hk hS1 => ?_)
  obtain ⟨hP1, hD1⟩ := hB
  rw [ht] at hP1
  obtain ⟨hP2, hD2⟩ := va_join hP hD isC isR hC hR hn hdis hk hFc hP1 hD1
  exact kk r u H1 locs1 hp hP2 hD2 hS1
theorem gx_ev {S : Type} {post : S → Prop} {w1 : S → va_W} (hP : va_P D gx_cl ws H) (hD : va_D A ws) (hS : va_S A H0 H locs) (hA : ∀ q, H0.size ≤ q → A q) (hC : isC.map (fun i => ws[i]?) = wc.map some) (hR : isR.map (fun i => ws[i]?) = wr.map some) (hn : va_nd isR = true) (hdis : ∀ i ∈ isR, i ∉ isC)
    (hr : va_Run p l e R s m args below meth c H locs cells slots mc ms (F0 m pc ls st0) rest (gx_Qv D post w1 (va_A wc H.size) a) (va_A wc H.size))
    (kk : ∀ (u : S) (H1 : Heap) (locs1 : List Loc), post u → va_P D gx_cl (wr ++ w1 u) H1 → va_D A (wr ++ w1 u) → va_S A H0 H1 locs1 → W p l e R s m args below meth c H1 locs1 (cells + mc) (slots + ms) Q (F0 m (pc + 3) ls (rest))) : W p l e R s m args below meth c H locs cells slots Q (F0 m pc ls st0) := by
  have hFc := va_free (wc := wc) hD hS hA isC hC
  refine va_callv hr hS (fun q _ h => hFc q h) hFc (fun u t H1 locs1 ht hvm hp hB hz hk hS1 => ?_)
  obtain ⟨hP1, hD1⟩ := hB
  rw [ht] at hP1
  obtain ⟨hP2, hD2⟩ := va_join hP hD isC isR hC hR hn hdis hk hFc hP1 hD1
  exact kk u H1 locs1 hp hP2 hD2 hS1
theorem gx_er {S : Type} {post : S → Prop} {w1 : S → Nat → va_W} (hP : va_P D gx_cl ws H) (hD : va_D A ws) (hS : va_S A H0 H locs) (hA : ∀ q, H0.size ≤ q → A q) (hC : isC.map (fun i => ws[i]?) = wc.map some) (hR : isR.map (fun i => ws[i]?) = wr.map some) (hn : va_nd isR = true) (hdis : ∀ i ∈ isR, i ∉ isC)
    (hr : va_Run p l e R s m args below meth c H locs cells slots mc ms (F0 m pc ls st0) rest (gx_Qr D post w1 (va_A wc H.size) a) (va_A wc H.size))
    (kk : ∀ (u : S) (ra : Nat) (H1 : Heap) (locs1 : List Loc), post u → va_P D gx_cl (wr ++ w1 u ra) H1 → va_D A (wr ++ w1 u ra) → va_S A H0 H1 locs1 → W p l e R s m args below meth c H1 locs1 (cells + mc) (slots + ms) Q (F0 m (pc + 3) ls (.ref ra :: rest))) : W p l e R s m args below meth c H locs cells slots Q (F0 m pc ls st0) := by
  have hFc := va_free (wc := wc) hD hS hA isC hC
  refine va_callr hr hS (fun q _ h => hFc q h) hFc (fun u ra t H1 locs1 ht hvm hp hB hz hk hS1 => ?_)
  obtain ⟨hP1, hD1⟩ := hB
  rw [ht] at hP1
  obtain ⟨hP2, hD2⟩ := va_join hP hD isC isR hC hR hn hdis hk hFc hP1 hD1
  exact kk u ra H1 locs1 hp hP2 hD2 hS1
-- ===== arrays of known classes =====
theorem gx_newI (hexec : p.tables.exec = Jvm.exec) (hb : c.code = cc) (hT : ∀ w ∈ gx_T, w.before args s = true) (hw : Cond.arrayClass .int ∈ gx_T) (hK : gx_K D k s) (hP : va_P D gx_cl ws H) (hD : va_D A ws) (hS : va_S A H0 H locs) (hA : ∀ q, H0.size ≤ q → A q) {x : Int32} {N' : Nat} (hn : ¬ x < 0) (hN : x.toNatClampNeg = N') (hbytes : N' * 4 ≤ 536870912) (hcells : cells + 1 ≤ R.cells) (hslots : slots + N' ≤ R.slots) (hdg : decode cc pc = .ok (.newarray .int, 2))
    (kk : ∀ (q : Nat) (H1 : Heap), va_P D gx_cl (ws ++ [(q, .inl (k 0, N', .inl (fun _ => 0)))]) H1 → va_D A (ws ++ [(q, .inl (k 0, N', .inl (fun _ => 0)))]) → va_S A H0 H1 locs → W p l e R s m args below meth c H1 locs (cells + 1) (slots + N') Q (F0 m (pc + 2) ls (.ref q :: rest))) : W p l e R s m args below meth c H locs cells slots Q (F0 m pc ls (.int x :: rest)) := by
  refine va_newa (atype := .int) (ty := .int) (N' := N') (a0 := (N', .inl (fun _ => 0))) hexec hb (hT _ hw) rfl hK.1 hP hD hS hA (fun cA => rfl) hn hN hbytes hcells hslots hdg (fun q cA H1 hK1 hP1 hD1 hS1 => ?_)
  have h1 : s.vm.findClass ("[" ++ FieldType.int.toString) = some cA := (hK1.2 5 (cA, .int) rfl).2
  have h2 : s.vm.findClass ("[" ++ FieldType.int.toString) = some (k 0) := (hK.1.2 0 (k 0, .int) rfl).2
  have h3 : cA = k 0 := Option.some.inj (h1.symm.trans h2)
  subst h3
  exact kk q H1 hP1 hD1 hS1
theorem gx_newJ (hexec : p.tables.exec = Jvm.exec) (hb : c.code = cc) (hT : ∀ w ∈ gx_T, w.before args s = true) (hw : Cond.arrayClass .long ∈ gx_T) (hK : gx_K D k s) (hP : va_P D gx_cl ws H) (hD : va_D A ws) (hS : va_S A H0 H locs) (hA : ∀ q, H0.size ≤ q → A q) {x : Int32} {N' : Nat} (hn : ¬ x < 0) (hN : x.toNatClampNeg = N') (hbytes : N' * 8 ≤ 536870912) (hcells : cells + 1 ≤ R.cells) (hslots : slots + N' ≤ R.slots) (hdg : decode cc pc = .ok (.newarray .long, 2))
    (kk : ∀ (q : Nat) (H1 : Heap), va_P D gx_cl (ws ++ [(q, .inl (k 1, N', .inr (.inl (fun _ => 0))))]) H1 → va_D A (ws ++ [(q, .inl (k 1, N', .inr (.inl (fun _ => 0))))]) → va_S A H0 H1 locs → W p l e R s m args below meth c H1 locs (cells + 1) (slots + N') Q (F0 m (pc + 2) ls (.ref q :: rest))) : W p l e R s m args below meth c H locs cells slots Q (F0 m pc ls (.int x :: rest)) := by
  refine va_newa (atype := .long) (ty := .long) (N' := N') (a0 := (N', .inr (.inl (fun _ => 0)))) hexec hb (hT _ hw) rfl hK.1 hP hD hS hA (fun cA => rfl) hn hN hbytes hcells hslots hdg (fun q cA H1 hK1 hP1 hD1 hS1 => ?_)
  have h1 : s.vm.findClass ("[" ++ FieldType.long.toString) = some cA := (hK1.2 5 (cA, .long) rfl).2
  have h2 : s.vm.findClass ("[" ++ FieldType.long.toString) = some (k 1) := (hK.1.2 1 (k 1, .long) rfl).2
  have h3 : cA = k 1 := Option.some.inj (h1.symm.trans h2)
  subst h3
  exact kk q H1 hP1 hD1 hS1
end GX
end
section
-- numbers, ranges, places
def gx_b (v lo hi : Int32) : Bool := decide (lo ≤ v ∧ v ≤ hi)
theorem gx_bn {v : Int32} : gx_b v 0 (-1) = false := by
  simp only [gx_b, decide_eq_false_iff_not, Int32.le_iff_toInt_le]
  intro h
  have h1 : (0 : Int32).toInt = 0 := by decide
  have h2 : (-1 : Int32).toInt = -1 := by decide
  omega
theorem gx_bt {v lo hi : Int32} (h1 : ¬ v < lo) (h2 : ¬ hi < v) : gx_b v lo hi = true := by
  simp only [gx_b, decide_eq_true_eq, Int32.le_iff_toInt_le, Int32.lt_iff_toInt_lt] at *
  omega
theorem gx_bf1 {v lo hi : Int32} (h1 : v < lo) : gx_b v lo hi = false := by
  simp only [gx_b, decide_eq_false_iff_not, Int32.le_iff_toInt_le, Int32.lt_iff_toInt_lt] at *
  omega
theorem gx_bf2 {v lo hi : Int32} (h1 : hi < v) : gx_b v lo hi = false := by
  simp only [gx_b, decide_eq_false_iff_not, Int32.le_iff_toInt_le, Int32.lt_iff_toInt_lt] at *
  omega
theorem gx_vin {i : Int32} {n : Nat} (h : decide (¬ (i < 0 ∨ n ≤ i.toNatClampNeg)) = true) : vp_in i n := (of_decide_eq_true h : ¬ (i < 0 ∨ n ≤ i.toNatClampNeg))
theorem gx_vb {v hi : Int32} {n : Nat} (h : gx_b v 0 hi = true) (h0 : hi.toInt + 1 = (n : Int)) (hn : n < 2 ^ 31) : vp_in v n := by
  simp only [gx_b, decide_eq_true_eq, Int32.le_iff_toInt_le] at h
  have h1 : (0 : Int32).toInt = 0 := by decide
  intro q
  rcases q with q | q
  · rw [Int32.lt_iff_toInt_lt] at q; omega
  · have : n ≤ v.toInt.toNat := q
    omega
/-- which of the places 0 .. 7 -/
theorem gx_8 {v : Int32} (h : gx_b v 0 7 = true) : v = 0 ∨ v = 1 ∨ v = 2 ∨ v = 3 ∨ v = 4 ∨ v = 5 ∨ v = 6 ∨ v = 7 := by
  simp only [gx_b, decide_eq_true_eq, Int32.le_iff_toInt_le] at h
  have h0 : (0 : Int32).toInt = 0 := by decide
  have h7 : (7 : Int32).toInt = 7 := by decide
  simp only [← Int32.toInt_inj]
  have h1 : (1 : Int32).toInt = 1 := by decide
  have h2 : (2 : Int32).toInt = 2 := by decide
  have h3 : (3 : Int32).toInt = 3 := by decide
  have h4 : (4 : Int32).toInt = 4 := by decide
  have h5 : (5 : Int32).toInt = 5 := by decide
  have h6 : (6 : Int32).toInt = 6 := by decide
  omega
theorem gx_out9 {x : Int32} (h0 : ¬ x = 0) (h1 : ¬ x = 1) (h2 : ¬ x = 2) (h3 : ¬ x = 3) (h4 : ¬ x = 4) (h5 : ¬ x = 5) (h6 : ¬ x = 6) (h7 : ¬ x = 7) (h8 : ¬ x = 8) : x.toInt < 0 ∨ 8 < x.toInt := by
  simp only [← Int32.toInt_inj] at *
  have e0 : (0 : Int32).toInt = 0 := by decide
  have e1 : (1 : Int32).toInt = 1 := by decide
  have e2 : (2 : Int32).toInt = 2 := by decide
  have e3 : (3 : Int32).toInt = 3 := by decide
  have e4 : (4 : Int32).toInt = 4 := by decide
  have e5 : (5 : Int32).toInt = 5 := by decide
  have e6 : (6 : Int32).toInt = 6 := by decide
  have e7 : (7 : Int32).toInt = 7 := by decide
  have e8 : (8 : Int32).toInt = 8 := by decide
  omega
section GY
variable {p : Program} {l : Launch} {e : Env} {R : Room} {s : State} {m : MethodId} {args : Array Value} {below : List Frame} {meth : Method} {c : Code} {H : Heap} {locs : List Loc} {cells slots : Nat} {Q : State → Prop}
variable {cc : ByteArray} {pc n : Nat} {ls : Array Slot} {rest : List Value} {D : va_G} {A : Nat → Prop} {k : Nat → ClassId} {ws : va_W} {y0 : MethodName} {ret : Option FieldType} {H0 : Heap}
theorem gx_newS (hexec : p.tables.exec = Jvm.exec) (hb : c.code = cc) (hT : ∀ w ∈ gx_T, w.before args s = true) {own : String} {index : Nat} (hw : Cond.classLink own index RX3 ∈ gx_T) (hown : s.vm.findClass own = some m.cls) (hK : gx_K D k s) (hP : va_P D gx_cl ws H) (hD : va_D A ws) (hS : va_S A H0 H locs) (hA : ∀ q, H0.size ≤ q → A q) {x : Int32} {N' : Nat} (hn : ¬ x < 0) (hN : x.toNatClampNeg = N') (hbytes : N' * 4 ≤ 536870912) (hcells : cells + 1 ≤ R.cells) (hslots : slots + N' ≤ R.slots) (hdg : decode cc pc = .ok (.anewarray index, 3))
    (kk : ∀ (q : Nat) (H1 : Heap), va_P D gx_cl (ws ++ [(q, .inl (k 2, N', .inr (.inr (.inr (.inr (fun _ => none))))))]) H1 → va_D A (ws ++ [(q, .inl (k 2, N', .inr (.inr (.inr (.inr (fun _ => none))))))]) → va_S A H0 H1 locs → W p l e R s m args below meth c H1 locs (cells + 1) (slots + N') Q (F0 m (pc + 3) ls (.ref q :: rest))) : W p l e R s m args below meth c H locs cells slots Q (F0 m pc ls (.int x :: rest)) := by
  refine va_newq (C := RX3) (N' := N') hexec hb hown (hT _ hw) hK.2.2.2.2.1 hK.1 hP hD hS hA hn hN hbytes hcells hslots hdg (fun q cA H1 hK1 hP1 hD1 hS1 => ?_)
  obtain ⟨_, _, _, _, _, h1⟩ := (hK1.2 5 (cA, .object RX3) rfl).2
  obtain ⟨_, _, _, _, _, h2⟩ := (hK.1.2 2 (k 2, .object RX3) rfl).2
  have h3 : cA = k 2 := Option.some.inj (h1.symm.trans h2)
  subst h3
  exact kk q H1 hP1 hD1 hS1
theorem gx_aldA (hexec : p.tables.exec = Jvm.exec) (hb : c.code = cc) {tys : List (ClassId × FieldType)} {a : Nat} (hK : va_K D gx_cl tys s) (hP : va_P D gx_cl ws H) (q0 t0 : Nat) {cA : ClassId} {ty : FieldType} {n : Nat} {f : Nat → Option Nat} (ha : ws[q0]? = some (a, .inl (cA, n, .inr (.inr (.inr (.inr f)))))) (ht : tys[t0]? = some (cA, .array ty)) {i : Int32} (hin : vp_in i n) (hdg : decode cc pc = .ok (.aaload, 1))
    (kk : W p l e R s m args below meth c H locs cells slots Q (F0 m (pc + 1) ls (va_rf (f i.toNatClampNeg) :: rest))) : W p l e R s m args below meth c H locs cells slots Q (F0 m pc ls (.int i :: .ref a :: rest)) := by
  have hlt : i.toNatClampNeg < n := Nat.not_le.mp fun q => hin (Or.inr q)
  exact W.aald (v := va_rf (f i.toNatClampNeg)) (ty := .array ty) hexec hb (hP q0 _ ha) ((hK.2 t0 _ ht).1 n (fun j => va_rf (f j))) rfl (fun q => by cases q) (by show ¬ (i < 0 ∨ (arrV _ _ _).slots.size ≤ _); rw [arrV_size]; exact hin) (by show (arrV _ _ _).slots[_]? = _; rw [arrV_read _ _ hlt]) rfl rfl hdg kk
theorem gx_retR (C : gx_C p s m args meth c cc n (some (.object "EachRoadOnceModel")) y0) {S : Type} {post : S → Prop} {w1 : S → Nat → va_W} (u : S) {va : Nat} (hP : va_P D gx_cl (w1 u va) H) (hD : va_D A (w1 u va)) (hS : va_S A s.heap H locs) (hp : post u) (hdg : decode cc pc = .ok (.areturn, 1)) : W p l e R s m args below meth c H locs cells slots (MQ below (gx_Qr D post w1 A) args s cells slots A) (F0 m pc ls [.ref va]) := by
  obtain ⟨hx, hb, hr, hml, hown, hT, hlk, -⟩ := C
  exact W.aret hx hb hr (Or.inl ⟨_, rfl⟩) (Or.inr ⟨_, rfl⟩) (fun t ht hW => ⟨⟨u, va, rfl, hp, by rw [ht]; exact hP, hD⟩, hS.F ht⟩) hS.2.2 hdg hlk
end GY
end
section
theorem iw_TX1 : ∀ w ∈ u_ws RX1 TX1 17, w ∈ gx_T := by
  intro w hw
  obtain ⟨j, hj, rfl⟩ := List.mem_map.mp hw
  have hj := List.mem_range.mp hj
  match j, hj with
  | 0, _ => exact gx_in (List.mem_of_getElem? (i := 153) (by decide +kernel)) (by decide +kernel)
  | 1, _ => exact gx_in (List.mem_of_getElem? (i := 155) (by decide +kernel)) (by decide +kernel)
  | 2, _ => exact gx_in (List.mem_of_getElem? (i := 157) (by decide +kernel)) (by decide +kernel)
  | 3, _ => exact gx_in (List.mem_of_getElem? (i := 159) (by decide +kernel)) (by decide +kernel)
  | 4, _ => exact gx_in (List.mem_of_getElem? (i := 161) (by decide +kernel)) (by decide +kernel)
  | 5, _ => exact gx_in (List.mem_of_getElem? (i := 163) (by decide +kernel)) (by decide +kernel)
  | 6, _ => exact gx_in (List.mem_of_getElem? (i := 165) (by decide +kernel)) (by decide +kernel)
  | 7, _ => exact gx_in (List.mem_of_getElem? (i := 167) (by decide +kernel)) (by decide +kernel)
  | 8, _ => exact gx_in (List.mem_of_getElem? (i := 169) (by decide +kernel)) (by decide +kernel)
  | 9, _ => exact gx_in (List.mem_of_getElem? (i := 171) (by decide +kernel)) (by decide +kernel)
  | 10, _ => exact gx_in (List.mem_of_getElem? (i := 173) (by decide +kernel)) (by decide +kernel)
  | 11, _ => exact gx_in (List.mem_of_getElem? (i := 175) (by decide +kernel)) (by decide +kernel)
  | 12, _ => exact gx_in (List.mem_of_getElem? (i := 177) (by decide +kernel)) (by decide +kernel)
  | 13, _ => exact gx_in (List.mem_of_getElem? (i := 179) (by decide +kernel)) (by decide +kernel)
  | 14, _ => exact gx_in (List.mem_of_getElem? (i := 181) (by decide +kernel)) (by decide +kernel)
  | 15, _ => exact gx_in (List.mem_of_getElem? (i := 183) (by decide +kernel)) (by decide +kernel)
  | 16, _ => exact gx_in (List.mem_of_getElem? (i := 185) (by decide +kernel)) (by decide +kernel)
  | j + 17, hj => exact absurd hj (by omega)
theorem iw_TX3 : ∀ w ∈ u_ws RX3 TX3 4, w ∈ gx_T := by
  intro w hw
  obtain ⟨j, hj, rfl⟩ := List.mem_map.mp hw
  have hj := List.mem_range.mp hj
  match j, hj with
  | 0, _ => exact gx_in (List.mem_of_getElem? (i := 261) (by decide +kernel)) (by decide +kernel)
  | 1, _ => exact gx_in (List.mem_of_getElem? (i := 263) (by decide +kernel)) (by decide +kernel)
  | 2, _ => exact gx_in (List.mem_of_getElem? (i := 265) (by decide +kernel)) (by decide +kernel)
  | 3, _ => exact gx_in (List.mem_of_getElem? (i := 267) (by decide +kernel)) (by decide +kernel)
  | j + 4, hj => exact absurd hj (by omega)
theorem iw_TX4 : ∀ w ∈ u_ws RX4 TX4 6, w ∈ gx_T := by
  intro w hw
  obtain ⟨j, hj, rfl⟩ := List.mem_map.mp hw
  have hj := List.mem_range.mp hj
  match j, hj with
  | 0, _ => exact gx_in (List.mem_of_getElem? (i := 203) (by decide +kernel)) (by decide +kernel)
  | 1, _ => exact gx_in (List.mem_of_getElem? (i := 205) (by decide +kernel)) (by decide +kernel)
  | 2, _ => exact gx_in (List.mem_of_getElem? (i := 207) (by decide +kernel)) (by decide +kernel)
  | 3, _ => exact gx_in (List.mem_of_getElem? (i := 209) (by decide +kernel)) (by decide +kernel)
  | 4, _ => exact gx_in (List.mem_of_getElem? (i := 211) (by decide +kernel)) (by decide +kernel)
  | 5, _ => exact gx_in (List.mem_of_getElem? (i := 213) (by decide +kernel)) (by decide +kernel)
  | j + 6, hj => exact absurd hj (by omega)
theorem iw_TX5 : ∀ w ∈ u_ws RX5 TX5 7, w ∈ gx_T := by
  intro w hw
  obtain ⟨j, hj, rfl⟩ := List.mem_map.mp hw
  have hj := List.mem_range.mp hj
  match j, hj with
  | 0, _ => exact gx_in (List.mem_of_getElem? (i := 231) (by decide +kernel)) (by decide +kernel)
  | 1, _ => exact gx_in (List.mem_of_getElem? (i := 233) (by decide +kernel)) (by decide +kernel)
  | 2, _ => exact gx_in (List.mem_of_getElem? (i := 235) (by decide +kernel)) (by decide +kernel)
  | 3, _ => exact gx_in (List.mem_of_getElem? (i := 237) (by decide +kernel)) (by decide +kernel)
  | 4, _ => exact gx_in (List.mem_of_getElem? (i := 239) (by decide +kernel)) (by decide +kernel)
  | 5, _ => exact gx_in (List.mem_of_getElem? (i := 241) (by decide +kernel)) (by decide +kernel)
  | 6, _ => exact gx_in (List.mem_of_getElem? (i := 243) (by decide +kernel)) (by decide +kernel)
  | j + 7, hj => exact absurd hj (by omega)
theorem iw_TX6 : ∀ w ∈ u_ws RX6 TX6 10, w ∈ gx_T := by
  intro w hw
  obtain ⟨j, hj, rfl⟩ := List.mem_map.mp hw
  have hj := List.mem_range.mp hj
  match j, hj with
  | 0, _ => exact gx_in (List.mem_of_getElem? (i := 281) (by decide +kernel)) (by decide +kernel)
  | 1, _ => exact gx_in (List.mem_of_getElem? (i := 283) (by decide +kernel)) (by decide +kernel)
  | 2, _ => exact gx_in (List.mem_of_getElem? (i := 285) (by decide +kernel)) (by decide +kernel)
  | 3, _ => exact gx_in (List.mem_of_getElem? (i := 287) (by decide +kernel)) (by decide +kernel)
  | 4, _ => exact gx_in (List.mem_of_getElem? (i := 289) (by decide +kernel)) (by decide +kernel)
  | 5, _ => exact gx_in (List.mem_of_getElem? (i := 291) (by decide +kernel)) (by decide +kernel)
  | 6, _ => exact gx_in (List.mem_of_getElem? (i := 293) (by decide +kernel)) (by decide +kernel)
  | 7, _ => exact gx_in (List.mem_of_getElem? (i := 295) (by decide +kernel)) (by decide +kernel)
  | 8, _ => exact gx_in (List.mem_of_getElem? (i := 297) (by decide +kernel)) (by decide +kernel)
  | 9, _ => exact gx_in (List.mem_of_getElem? (i := 299) (by decide +kernel)) (by decide +kernel)
  | j + 10, hj => exact absurd hj (by omega)
theorem iw_TX7 : ∀ w ∈ u_ws RX7 TX7 37, w ∈ gx_T := by
  intro w hw
  obtain ⟨j, hj, rfl⟩ := List.mem_map.mp hw
  have hj := List.mem_range.mp hj
  match j, hj with
  | 0, _ => exact gx_in (List.mem_of_getElem? (i := 967) (by decide +kernel)) (by decide +kernel)
  | 1, _ => exact gx_in (List.mem_of_getElem? (i := 969) (by decide +kernel)) (by decide +kernel)
  | 2, _ => exact gx_in (List.mem_of_getElem? (i := 971) (by decide +kernel)) (by decide +kernel)
  | 3, _ => exact gx_in (List.mem_of_getElem? (i := 973) (by decide +kernel)) (by decide +kernel)
  | 4, _ => exact gx_in (List.mem_of_getElem? (i := 975) (by decide +kernel)) (by decide +kernel)
  | 5, _ => exact gx_in (List.mem_of_getElem? (i := 977) (by decide +kernel)) (by decide +kernel)
  | 6, _ => exact gx_in (List.mem_of_getElem? (i := 979) (by decide +kernel)) (by decide +kernel)
  | 7, _ => exact gx_in (List.mem_of_getElem? (i := 981) (by decide +kernel)) (by decide +kernel)
  | 8, _ => exact gx_in (List.mem_of_getElem? (i := 983) (by decide +kernel)) (by decide +kernel)
  | 9, _ => exact gx_in (List.mem_of_getElem? (i := 985) (by decide +kernel)) (by decide +kernel)
  | 10, _ => exact gx_in (List.mem_of_getElem? (i := 987) (by decide +kernel)) (by decide +kernel)
  | 11, _ => exact gx_in (List.mem_of_getElem? (i := 989) (by decide +kernel)) (by decide +kernel)
  | 12, _ => exact gx_in (List.mem_of_getElem? (i := 991) (by decide +kernel)) (by decide +kernel)
  | 13, _ => exact gx_in (List.mem_of_getElem? (i := 993) (by decide +kernel)) (by decide +kernel)
  | 14, _ => exact gx_in (List.mem_of_getElem? (i := 995) (by decide +kernel)) (by decide +kernel)
  | 15, _ => exact gx_in (List.mem_of_getElem? (i := 997) (by decide +kernel)) (by decide +kernel)
  | 16, _ => exact gx_in (List.mem_of_getElem? (i := 999) (by decide +kernel)) (by decide +kernel)
  | 17, _ => exact gx_in (List.mem_of_getElem? (i := 1001) (by decide +kernel)) (by decide +kernel)
  | 18, _ => exact gx_in (List.mem_of_getElem? (i := 1003) (by decide +kernel)) (by decide +kernel)
  | 19, _ => exact gx_in (List.mem_of_getElem? (i := 1005) (by decide +kernel)) (by decide +kernel)
  | 20, _ => exact gx_in (List.mem_of_getElem? (i := 1007) (by decide +kernel)) (by decide +kernel)
  | 21, _ => exact gx_in (List.mem_of_getElem? (i := 1009) (by decide +kernel)) (by decide +kernel)
  | 22, _ => exact gx_in (List.mem_of_getElem? (i := 1011) (by decide +kernel)) (by decide +kernel)
  | 23, _ => exact gx_in (List.mem_of_getElem? (i := 1013) (by decide +kernel)) (by decide +kernel)
  | 24, _ => exact gx_in (List.mem_of_getElem? (i := 1015) (by decide +kernel)) (by decide +kernel)
  | 25, _ => exact gx_in (List.mem_of_getElem? (i := 1017) (by decide +kernel)) (by decide +kernel)
  | 26, _ => exact gx_in (List.mem_of_getElem? (i := 1019) (by decide +kernel)) (by decide +kernel)
  | 27, _ => exact gx_in (List.mem_of_getElem? (i := 1021) (by decide +kernel)) (by decide +kernel)
  | 28, _ => exact gx_in (List.mem_of_getElem? (i := 1023) (by decide +kernel)) (by decide +kernel)
  | 29, _ => exact gx_in (List.mem_of_getElem? (i := 1025) (by decide +kernel)) (by decide +kernel)
  | 30, _ => exact gx_in (List.mem_of_getElem? (i := 1027) (by decide +kernel)) (by decide +kernel)
  | 31, _ => exact gx_in (List.mem_of_getElem? (i := 1029) (by decide +kernel)) (by decide +kernel)
  | 32, _ => exact gx_in (List.mem_of_getElem? (i := 1031) (by decide +kernel)) (by decide +kernel)
  | 33, _ => exact gx_in (List.mem_of_getElem? (i := 1033) (by decide +kernel)) (by decide +kernel)
  | 34, _ => exact gx_in (List.mem_of_getElem? (i := 1035) (by decide +kernel)) (by decide +kernel)
  | 35, _ => exact gx_in (List.mem_of_getElem? (i := 1037) (by decide +kernel)) (by decide +kernel)
  | 36, _ => exact gx_in (List.mem_of_getElem? (i := 1039) (by decide +kernel)) (by decide +kernel)
  | j + 37, hj => exact absurd hj (by omega)
end
section
theorem wd_69 : Cond.initialized RX6 ∈ gx_T := gx_in (List.mem_of_getElem? (i := 69) (by decide +kernel)) (by decide +kernel)
theorem wd_135 : Cond.fieldLink RX6 133 "EachRoadOnce$Land" "roads" "I" ∈ gx_T := gx_in (List.mem_of_getElem? (i := 135) (by decide +kernel)) (by decide +kernel)
theorem wd_138 : Cond.fieldLink RX6 123 "EachRoadOnce$Land" "people" "I" ∈ gx_T := gx_in (List.mem_of_getElem? (i := 138) (by decide +kernel)) (by decide +kernel)
theorem wd_259 : Cond.fieldLink RX3 15 "EachRoadOnce$Shelf" "content" "I" ∈ gx_T := gx_in (List.mem_of_getElem? (i := 259) (by decide +kernel)) (by decide +kernel)
theorem wd_271 : Cond.fieldLink RX6 10 "EachRoadOnce" "now" "LEachRoadOnce$Land;" ∈ gx_T := gx_in (List.mem_of_getElem? (i := 271) (by decide +kernel)) (by decide +kernel)
theorem wd_279 : Cond.fieldLink RX6 49 "EachRoadOnce" "refusals" "[I" ∈ gx_T := gx_in (List.mem_of_getElem? (i := 279) (by decide +kernel)) (by decide +kernel)
theorem wd_309 : Cond.methodLink RX6 57 yX6_isBetween ∈ gx_T := gx_in (List.mem_of_getElem? (i := 309) (by decide +kernel)) (by decide +kernel)
theorem wd_310 : Cond.static yX6_isBetween ∈ gx_T := gx_in (List.mem_of_getElem? (i := 310) (by decide +kernel)) (by decide +kernel)
theorem wd_311 : Cond.code yX6_isBetween cX6_isBetween 3 (some .boolean) ∈ gx_T := gx_in (List.mem_of_getElem? (i := 311) (by decide +kernel)) (by decide +kernel)
theorem gS_RX6_57 : GoodIn gx_T (va_wsS RX6 57 yX6_isBetween (.code yX6_isBetween cX6_isBetween 3 (some .boolean) :: gx_T)) := gx_gS wd_309 wd_310 wd_69 wd_311
theorem dX6_isBetween_0 : decode cX6_isBetween 0 = .ok (.iload_n 0, 1) := by decide +kernel
theorem dX6_isBetween_1 : decode cX6_isBetween 1 = .ok (.iload_n 1, 1) := by decide +kernel
theorem dX6_isBetween_2 : decode cX6_isBetween 2 = .ok (.if_icmp .lt 12, 3) := by decide +kernel
theorem dX6_isBetween_5 : decode cX6_isBetween 5 = .ok (.iload_n 0, 1) := by decide +kernel
theorem dX6_isBetween_6 : decode cX6_isBetween 6 = .ok (.iload_n 2, 1) := by decide +kernel
theorem dX6_isBetween_7 : decode cX6_isBetween 7 = .ok (.if_icmp .gt 7, 3) := by decide +kernel
theorem dX6_isBetween_10 : decode cX6_isBetween 10 = .ok (.iconst 1, 1) := by decide +kernel
theorem dX6_isBetween_11 : decode cX6_isBetween 11 = .ok (.goto 4, 3) := by decide +kernel
theorem dX6_isBetween_14 : decode cX6_isBetween 14 = .ok (.iconst 0, 1) := by decide +kernel
theorem dX6_isBetween_15 : decode cX6_isBetween 15 = .ok (.ireturn, 1) := by decide +kernel
theorem dX6_isShelf_0 : decode cX6_isShelf 0 = .ok (.iload_n 0, 1) := by decide +kernel
theorem dX6_isShelf_1 : decode cX6_isShelf 1 = .ok (.iconst 0, 1) := by decide +kernel
theorem dX6_isShelf_2 : decode cX6_isShelf 2 = .ok (.bipush 7, 2) := by decide +kernel
theorem dX6_isShelf_4 : decode cX6_isShelf 4 = .ok (.invokestatic 57, 3) := by decide +kernel
theorem dX6_isShelf_7 : decode cX6_isShelf 7 = .ok (.ireturn, 1) := by decide +kernel
theorem dX6_isPlace_0 : decode cX6_isPlace 0 = .ok (.iload_n 0, 1) := by decide +kernel
theorem dX6_isPlace_1 : decode cX6_isPlace 1 = .ok (.iconst 0, 1) := by decide +kernel
theorem dX6_isPlace_2 : decode cX6_isPlace 2 = .ok (.bipush 7, 2) := by decide +kernel
theorem dX6_isPlace_4 : decode cX6_isPlace 4 = .ok (.invokestatic 57, 3) := by decide +kernel
theorem dX6_isPlace_7 : decode cX6_isPlace 7 = .ok (.ireturn, 1) := by decide +kernel
theorem dX6_isOne_0 : decode cX6_isOne 0 = .ok (.iload_n 1, 1) := by decide +kernel
theorem dX6_isOne_1 : decode cX6_isOne 1 = .ok (.iconst 0, 1) := by decide +kernel
theorem dX6_isOne_2 : decode cX6_isOne 2 = .ok (.aload_n 0, 1) := by decide +kernel
theorem dX6_isOne_3 : decode cX6_isOne 3 = .ok (.getfield 10, 3) := by decide +kernel
theorem dX6_isOne_6 : decode cX6_isOne 6 = .ok (.getfield 123, 3) := by decide +kernel
theorem dX6_isOne_9 : decode cX6_isOne 9 = .ok (.iconst 1, 1) := by decide +kernel
theorem dX6_isOne_10 : decode cX6_isOne 10 = .ok (.isub, 1) := by decide +kernel
theorem dX6_isOne_11 : decode cX6_isOne 11 = .ok (.invokestatic 57, 3) := by decide +kernel
theorem dX6_isOne_14 : decode cX6_isOne 14 = .ok (.ireturn, 1) := by decide +kernel
theorem dX6_isRoad_0 : decode cX6_isRoad 0 = .ok (.iload_n 1, 1) := by decide +kernel
theorem dX6_isRoad_1 : decode cX6_isRoad 1 = .ok (.iconst 0, 1) := by decide +kernel
theorem dX6_isRoad_2 : decode cX6_isRoad 2 = .ok (.aload_n 0, 1) := by decide +kernel
theorem dX6_isRoad_3 : decode cX6_isRoad 3 = .ok (.getfield 10, 3) := by decide +kernel
theorem dX6_isRoad_6 : decode cX6_isRoad 6 = .ok (.getfield 133, 3) := by decide +kernel
theorem dX6_isRoad_9 : decode cX6_isRoad 9 = .ok (.iconst 1, 1) := by decide +kernel
theorem dX6_isRoad_10 : decode cX6_isRoad 10 = .ok (.isub, 1) := by decide +kernel
theorem dX6_isRoad_11 : decode cX6_isRoad 11 = .ok (.invokestatic 57, 3) := by decide +kernel
theorem dX6_isRoad_14 : decode cX6_isRoad 14 = .ok (.ireturn, 1) := by decide +kernel
theorem dX6_refuse_0 : decode cX6_refuse 0 = .ok (.iload_n 1, 1) := by decide +kernel
theorem dX6_refuse_1 : decode cX6_refuse 1 = .ok (.bipush (-6), 2) := by decide +kernel
theorem dX6_refuse_3 : decode cX6_refuse 3 = .ok (.bipush (-2), 2) := by decide +kernel
theorem dX6_refuse_5 : decode cX6_refuse 5 = .ok (.invokestatic 57, 3) := by decide +kernel
theorem dX6_refuse_8 : decode cX6_refuse 8 = .ok (.ifCond .eq 16, 3) := by decide +kernel
theorem dX6_refuse_11 : decode cX6_refuse 11 = .ok (.aload_n 0, 1) := by decide +kernel
theorem dX6_refuse_12 : decode cX6_refuse 12 = .ok (.getfield 49, 3) := by decide +kernel
theorem dX6_refuse_15 : decode cX6_refuse 15 = .ok (.bipush (-2), 2) := by decide +kernel
theorem dX6_refuse_17 : decode cX6_refuse 17 = .ok (.iload_n 1, 1) := by decide +kernel
theorem dX6_refuse_18 : decode cX6_refuse 18 = .ok (.isub, 1) := by decide +kernel
theorem dX6_refuse_19 : decode cX6_refuse 19 = .ok (.dup2, 1) := by decide +kernel
theorem dX6_refuse_20 : decode cX6_refuse 20 = .ok (.iaload, 1) := by decide +kernel
theorem dX6_refuse_21 : decode cX6_refuse 21 = .ok (.iconst 1, 1) := by decide +kernel
theorem dX6_refuse_22 : decode cX6_refuse 22 = .ok (.iadd, 1) := by decide +kernel
theorem dX6_refuse_23 : decode cX6_refuse 23 = .ok (.iastore, 1) := by decide +kernel
theorem dX6_refuse_24 : decode cX6_refuse 24 = .ok (.iload_n 1, 1) := by decide +kernel
theorem dX6_refuse_25 : decode cX6_refuse 25 = .ok (.ireturn, 1) := by decide +kernel
theorem dX3_isEmpty_0 : decode cX3_isEmpty 0 = .ok (.aload_n 0, 1) := by decide +kernel
theorem dX3_isEmpty_1 : decode cX3_isEmpty 1 = .ok (.getfield 15, 3) := by decide +kernel
theorem dX3_isEmpty_4 : decode cX3_isEmpty 4 = .ok (.iconst (-1), 1) := by decide +kernel
theorem dX3_isEmpty_5 : decode cX3_isEmpty 5 = .ok (.if_icmp .ne 7, 3) := by decide +kernel
theorem dX3_isEmpty_8 : decode cX3_isEmpty 8 = .ok (.iconst 1, 1) := by decide +kernel
theorem dX3_isEmpty_9 : decode cX3_isEmpty 9 = .ok (.goto 4, 3) := by decide +kernel
theorem dX3_isEmpty_13 : decode cX3_isEmpty 13 = .ok (.ireturn, 1) := by decide +kernel
theorem dX3_isRow_0 : decode cX3_isRow 0 = .ok (.aload_n 0, 1) := by decide +kernel
theorem dX3_isRow_1 : decode cX3_isRow 1 = .ok (.getfield 15, 3) := by decide +kernel
theorem dX3_isRow_4 : decode cX3_isRow 4 = .ok (.ifCond .lt 15, 3) := by decide +kernel
theorem dX3_isRow_19 : decode cX3_isRow 19 = .ok (.iconst 0, 1) := by decide +kernel
theorem dX3_isRow_20 : decode cX3_isRow 20 = .ok (.ireturn, 1) := by decide +kernel
theorem dX3_isRule_0 : decode cX3_isRule 0 = .ok (.aload_n 0, 1) := by decide +kernel
theorem dX3_isRule_1 : decode cX3_isRule 1 = .ok (.getfield 15, 3) := by decide +kernel
theorem dX3_isRule_4 : decode cX3_isRule 4 = .ok (.bipush 10, 2) := by decide +kernel
theorem dX3_isRule_6 : decode cX3_isRule 6 = .ok (.if_icmp .lt 7, 3) := by decide +kernel
theorem dX3_isRule_13 : decode cX3_isRule 13 = .ok (.iconst 0, 1) := by decide +kernel
theorem dX3_isRule_14 : decode cX3_isRule 14 = .ok (.ireturn, 1) := by decide +kernel
set_option maxHeartbeats 4000000 in
set_option maxRecDepth 100000 in
theorem k_isBetween (l : Launch) (D : va_G) (k : Nat → ClassId) (v : Int32) (lo : Int32) (hi : Int32) (sz : Nat) : Met l yX6_isBetween (.code yX6_isBetween cX6_isBetween 3 (some .boolean) :: gx_T) ({ frames := 0, cells := 0, slots := 0, locals := 0 }) (gx_Pre D k [.int v, .int lo, .int hi] ([]) sz) (gx_Pi (fun r => r = 1 ∧ gx_b v lo hi = true ∨ r = 0 ∧ gx_b v lo hi = false)) 0 0 gx_No := by
  refine gx_metP (by decide) (Nat.le_of_ble_eq_true rfl) ?_
  intro p e s m below meth c ls C hP hD hK hS hl
  obtain ⟨hx, hb, hr, hml, hown, hT, hlk, hin⟩ := id C
  have hown : s.vm.findClass RX6 = some m.cls := hown
  have hl : lv_has ls 3 [(0, .int v), (1, .int lo), (2, .int hi)] := hl
  refine lv_iload_n hx hb dX6_isBetween_0 rfl (lv_at hl 0 rfl) ?_
  refine lv_iload_n hx hb dX6_isBetween_1 rfl (lv_at hl 1 rfl) ?_
  refine lv_icmp_lt (tgt := 14) hx hb dX6_isBetween_2 (by decide) (fun c_1 => ?_) (fun c_1 => ?_)
  · refine lv_iconst (v := 0) hx hb dX6_isBetween_14 (by decide) ?_
    exact gx_retPZ C hS rfl (Or.inr ⟨rfl, gx_bf1 c_1⟩) dX6_isBetween_15
  · refine lv_iload_n hx hb dX6_isBetween_5 rfl (lv_at hl 0 rfl) ?_
    refine lv_iload_n hx hb dX6_isBetween_6 rfl (lv_at hl 2 rfl) ?_
    refine lv_icmp_gt (tgt := 14) hx hb dX6_isBetween_7 (by decide) (fun c_2 => ?_) (fun c_2 => ?_)
    · refine lv_iconst (v := 0) hx hb dX6_isBetween_14 (by decide) ?_
      exact gx_retPZ C hS rfl (Or.inr ⟨rfl, gx_bf2 c_2⟩) dX6_isBetween_15
    · refine lv_iconst (v := 1) hx hb dX6_isBetween_10 (by decide) ?_
      refine lv_goto (tgt := 15) hx hb dX6_isBetween_11 (by decide) ?_
      exact gx_retPZ C hS rfl (Or.inl ⟨rfl, gx_bt c_1 c_2⟩) dX6_isBetween_15
set_option maxHeartbeats 4000000 in
set_option maxRecDepth 100000 in
theorem k_isShelf (l : Launch) (D : va_G) (k : Nat → ClassId) (v : Int32) (sz : Nat) : Met l yX6_isShelf (.code yX6_isShelf cX6_isShelf 1 (some .boolean) :: gx_T) ({ frames := 1, cells := 0, slots := 0, locals := 22 }) (gx_Pre D k [.int v] ([]) sz) (gx_Pi (fun r => r = 1 ∧ gx_b v 0 7 = true ∨ r = 0 ∧ gx_b v 0 7 = false)) 0 0 gx_No := by
  refine gx_metP (by decide) (Nat.le_of_ble_eq_true rfl) ?_
  intro p e s m below meth c ls C hP hD hK hS hl
  obtain ⟨hx, hb, hr, hml, hown, hT, hlk, hin⟩ := id C
  have hown : s.vm.findClass RX6 = some m.cls := hown
  have hl : lv_has ls 1 [(0, .int v)] := hl
  refine lv_iload_n hx hb dX6_isShelf_0 rfl (lv_at hl 0 rfl) ?_
  refine lv_iconst (v := 0) hx hb dX6_isShelf_1 (by decide) ?_
  refine lv_bipush (v := 7) hx hb dX6_isShelf_2 (by decide) ?_
  refine gx_pi hP hS (gx_runS (na := 3) (As := [.int v, .int 0, .int 7]) (rest := []) C hl.1 hK (gx_subP (wc := ([] : va_W)) hP [] rfl) ((hD.sub (ws' := ([] : va_W)) [] (by decide) rfl).weaken (fun _ _ _ _ => trivial)) (k_isBetween l D k v 0 7 _) gS_RX6_57 (by decide +kernel) rfl rfl ⟨Nat.le_of_ble_eq_true rfl, Nat.le_of_ble_eq_true rfl⟩ rfl rfl (Nat.le_of_ble_eq_true rfl) dX6_isShelf_4 ⟨Nat.le_of_ble_eq_true rfl, Nat.le_of_ble_eq_true rfl⟩) (fun r_2 H locs pc_1 hP hS => ?_)
  have oc_1 : r_2 = 1 ∧ gx_b v 0 7 = true ∨ r_2 = 0 ∧ gx_b v 0 7 = false := pc_1
  clear pc_1
  rcases oc_1 with ⟨rfl, c_1⟩ | ⟨rfl, c_1⟩
  · exact gx_retPZ C hS rfl (Or.inl ⟨rfl, c_1⟩) dX6_isShelf_7
  · exact gx_retPZ C hS rfl (Or.inr ⟨rfl, c_1⟩) dX6_isShelf_7
set_option maxHeartbeats 4000000 in
set_option maxRecDepth 100000 in
theorem k_isPlace (l : Launch) (D : va_G) (k : Nat → ClassId) (v : Int32) (sz : Nat) : Met l yX6_isPlace (.code yX6_isPlace cX6_isPlace 1 (some .boolean) :: gx_T) ({ frames := 1, cells := 0, slots := 0, locals := 22 }) (gx_Pre D k [.int v] ([]) sz) (gx_Pi (fun r => r = 1 ∧ gx_b v 0 7 = true ∨ r = 0 ∧ gx_b v 0 7 = false)) 0 0 gx_No := by
  refine gx_metP (by decide) (Nat.le_of_ble_eq_true rfl) ?_
  intro p e s m below meth c ls C hP hD hK hS hl
  obtain ⟨hx, hb, hr, hml, hown, hT, hlk, hin⟩ := id C
  have hown : s.vm.findClass RX6 = some m.cls := hown
  have hl : lv_has ls 1 [(0, .int v)] := hl
  refine lv_iload_n hx hb dX6_isPlace_0 rfl (lv_at hl 0 rfl) ?_
  refine lv_iconst (v := 0) hx hb dX6_isPlace_1 (by decide) ?_
  refine lv_bipush (v := 7) hx hb dX6_isPlace_2 (by decide) ?_
  refine gx_pi hP hS (gx_runS (na := 3) (As := [.int v, .int 0, .int 7]) (rest := []) C hl.1 hK (gx_subP (wc := ([] : va_W)) hP [] rfl) ((hD.sub (ws' := ([] : va_W)) [] (by decide) rfl).weaken (fun _ _ _ _ => trivial)) (k_isBetween l D k v 0 7 _) gS_RX6_57 (by decide +kernel) rfl rfl ⟨Nat.le_of_ble_eq_true rfl, Nat.le_of_ble_eq_true rfl⟩ rfl rfl (Nat.le_of_ble_eq_true rfl) dX6_isPlace_4 ⟨Nat.le_of_ble_eq_true rfl, Nat.le_of_ble_eq_true rfl⟩) (fun r_2 H locs pc_1 hP hS => ?_)
  have oc_1 : r_2 = 1 ∧ gx_b v 0 7 = true ∨ r_2 = 0 ∧ gx_b v 0 7 = false := pc_1
  clear pc_1
  rcases oc_1 with ⟨rfl, c_1⟩ | ⟨rfl, c_1⟩
  · exact gx_retPZ C hS rfl (Or.inl ⟨rfl, c_1⟩) dX6_isPlace_7
  · exact gx_retPZ C hS rfl (Or.inr ⟨rfl, c_1⟩) dX6_isPlace_7
set_option maxHeartbeats 4000000 in
set_option maxRecDepth 100000 in
theorem k_isOne (l : Launch) (D : va_G) (k : Nat → ClassId) (ad : Nat → Nat) (v : Int32) (sz : Nat) : Met l yX6_isOne (.code yX6_isOne cX6_isOne 2 (some .boolean) :: gx_T) ({ frames := 1, cells := 0, slots := 0, locals := 22 }) (gx_Pre D k [.ref (ad 0), .int v] ([((ad 0), .inr (4, [.ref (ad 1), .ref (ad 2), .ref (ad 3), .ref (ad 4), .ref (ad 5), .ref (ad 6), .ref (ad 7), .ref (ad 8), .ref (ad 9), .int 0])), ((ad 1), .inr (0, [.ref (ad 10), .ref (ad 11), .ref (ad 12), .ref (ad 13), .ref (ad 14), .ref (ad 15), .ref (ad 16), .ref (ad 17), .ref (ad 18), .int 0, .int 0, .int 0, .int 0, .int 1, .int 0, .int 0, .int 0]))]) sz) (gx_Pi (fun r => r = 0)) 0 0 gx_No := by
  refine gx_metP (by decide) (Nat.le_of_ble_eq_true rfl) ?_
  intro p e s m below meth c ls C hP hD hK hS hl
  obtain ⟨hx, hb, hr, hml, hown, hT, hlk, hin⟩ := id C
  have hown : s.vm.findClass RX6 = some m.cls := hown
  have hl : lv_has ls 2 [(0, .ref (ad 0)), (1, .int v)] := hl
  refine lv_iload_n hx hb dX6_isOne_0 rfl (lv_at hl 1 rfl) ?_
  refine lv_iconst (v := 0) hx hb dX6_isOne_1 (by decide) ?_
  refine lv_aload_n hx hb dX6_isOne_2 rfl (lv_at hl 0 rfl) ?_
  refine va_get (D := D) (ci := 4) (v := .ref (ad 1)) (C := RX6) (T := TX6) (N := 10) hx hb hT iw_TX6 hown hK.1 hP 0 rfl rfl 0 (by decide) (hT _ wd_271) (fun _ h9 => h9) rfl dX6_isOne_3 ?_
  refine va_get (D := D) (ci := 0) (v := .int 0) (C := RX1) (T := TX1) (N := 17) hx hb hT iw_TX1 hown hK.1 hP 1 rfl rfl 10 (by decide) (hT _ wd_138) (fun _ h9 => h9) rfl dX6_isOne_6 ?_
  refine lv_iconst (v := 1) hx hb dX6_isOne_9 (by decide) ?_
  refine lv_isub hx hb dX6_isOne_10 ?_
  refine gx_cst (v := (-1)) (by decide) ?_
  refine gx_pi hP hS (gx_runS (na := 3) (As := [.int v, .int 0, .int (-1)]) (rest := []) C hl.1 hK (gx_subP (wc := ([] : va_W)) hP [] rfl) ((hD.sub (ws' := ([] : va_W)) [] (by decide) rfl).weaken (fun _ _ _ _ => trivial)) (k_isBetween l D k v 0 (-1) _) gS_RX6_57 (by decide +kernel) rfl rfl ⟨Nat.le_of_ble_eq_true rfl, Nat.le_of_ble_eq_true rfl⟩ rfl rfl (Nat.le_of_ble_eq_true rfl) dX6_isOne_11 ⟨Nat.le_of_ble_eq_true rfl, Nat.le_of_ble_eq_true rfl⟩) (fun r_2 H locs pc_1 hP hS => ?_)
  have oc_1 : r_2 = 1 ∧ gx_b v 0 (-1) = true ∨ r_2 = 0 ∧ gx_b v 0 (-1) = false := pc_1
  clear pc_1
  rcases oc_1 with ⟨rfl, c_1⟩ | ⟨rfl, c_1⟩
  · exact absurd c_1 (by first | decide | (rw [gx_bn]; decide) | simp [gx_bn])
  · exact gx_retPZ C hS rfl (rfl) dX6_isOne_14
set_option maxHeartbeats 4000000 in
set_option maxRecDepth 100000 in
theorem k_isRoad (l : Launch) (D : va_G) (k : Nat → ClassId) (ad : Nat → Nat) (v : Int32) (sz : Nat) : Met l yX6_isRoad (.code yX6_isRoad cX6_isRoad 2 (some .boolean) :: gx_T) ({ frames := 1, cells := 0, slots := 0, locals := 22 }) (gx_Pre D k [.ref (ad 0), .int v] ([((ad 0), .inr (4, [.ref (ad 1), .ref (ad 2), .ref (ad 3), .ref (ad 4), .ref (ad 5), .ref (ad 6), .ref (ad 7), .ref (ad 8), .ref (ad 9), .int 0])), ((ad 1), .inr (0, [.ref (ad 10), .ref (ad 11), .ref (ad 12), .ref (ad 13), .ref (ad 14), .ref (ad 15), .ref (ad 16), .ref (ad 17), .ref (ad 18), .int 0, .int 0, .int 0, .int 0, .int 1, .int 0, .int 0, .int 0]))]) sz) (gx_Pi (fun r => r = 0)) 0 0 gx_No := by
  refine gx_metP (by decide) (Nat.le_of_ble_eq_true rfl) ?_
  intro p e s m below meth c ls C hP hD hK hS hl
  obtain ⟨hx, hb, hr, hml, hown, hT, hlk, hin⟩ := id C
  have hown : s.vm.findClass RX6 = some m.cls := hown
  have hl : lv_has ls 2 [(0, .ref (ad 0)), (1, .int v)] := hl
  refine lv_iload_n hx hb dX6_isRoad_0 rfl (lv_at hl 1 rfl) ?_
  refine lv_iconst (v := 0) hx hb dX6_isRoad_1 (by decide) ?_
  refine lv_aload_n hx hb dX6_isRoad_2 rfl (lv_at hl 0 rfl) ?_
  refine va_get (D := D) (ci := 4) (v := .ref (ad 1)) (C := RX6) (T := TX6) (N := 10) hx hb hT iw_TX6 hown hK.1 hP 0 rfl rfl 0 (by decide) (hT _ wd_271) (fun _ h9 => h9) rfl dX6_isRoad_3 ?_
  refine va_get (D := D) (ci := 0) (v := .int 0) (C := RX1) (T := TX1) (N := 17) hx hb hT iw_TX1 hown hK.1 hP 1 rfl rfl 9 (by decide) (hT _ wd_135) (fun _ h9 => h9) rfl dX6_isRoad_6 ?_
  refine lv_iconst (v := 1) hx hb dX6_isRoad_9 (by decide) ?_
  refine lv_isub hx hb dX6_isRoad_10 ?_
  refine gx_cst (v := (-1)) (by decide) ?_
  refine gx_pi hP hS (gx_runS (na := 3) (As := [.int v, .int 0, .int (-1)]) (rest := []) C hl.1 hK (gx_subP (wc := ([] : va_W)) hP [] rfl) ((hD.sub (ws' := ([] : va_W)) [] (by decide) rfl).weaken (fun _ _ _ _ => trivial)) (k_isBetween l D k v 0 (-1) _) gS_RX6_57 (by decide +kernel) rfl rfl ⟨Nat.le_of_ble_eq_true rfl, Nat.le_of_ble_eq_true rfl⟩ rfl rfl (Nat.le_of_ble_eq_true rfl) dX6_isRoad_11 ⟨Nat.le_of_ble_eq_true rfl, Nat.le_of_ble_eq_true rfl⟩) (fun r_2 H locs pc_1 hP hS => ?_)
  have oc_1 : r_2 = 1 ∧ gx_b v 0 (-1) = true ∨ r_2 = 0 ∧ gx_b v 0 (-1) = false := pc_1
  clear pc_1
  rcases oc_1 with ⟨rfl, c_1⟩ | ⟨rfl, c_1⟩
  · exact absurd c_1 (by first | decide | (rw [gx_bn]; decide) | simp [gx_bn])
  · exact gx_retPZ C hS rfl (rfl) dX6_isRoad_14
set_option maxHeartbeats 4000000 in
set_option maxRecDepth 100000 in
theorem k_refuse2 (l : Launch) (D : va_G) (k : Nat → ClassId) (ad : Nat → Nat) (sz : Nat) : Met l yX6_refuse (.code yX6_refuse cX6_refuse 2 (some .int) :: gx_T) ({ frames := 1, cells := 0, slots := 0, locals := 22 }) (gx_Pre D k [.ref (ad 0), .int (-2)] ([((ad 0), .inr (4, [.ref (ad 1), .ref (ad 2), .ref (ad 3), .ref (ad 4), .ref (ad 5), .ref (ad 6), .ref (ad 7), .ref (ad 8), .ref (ad 9), .int 0])), ((ad 9), .inl (k 0, 5, .inl (fun _ => 0)))]) sz) (gx_Qi D (fun (r : Int32) (u : Unit) => r = -2) (fun (u : Unit) => ([] : va_W)) (va_A ([((ad 0), .inr (4, [.ref (ad 1), .ref (ad 2), .ref (ad 3), .ref (ad 4), .ref (ad 5), .ref (ad 6), .ref (ad 7), .ref (ad 8), .ref (ad 9), .int 0])), ((ad 9), .inl (k 0, 5, .inl (fun _ => 0)))]) sz)) 0 0 (va_A ([((ad 0), .inr (4, [.ref (ad 1), .ref (ad 2), .ref (ad 3), .ref (ad 4), .ref (ad 5), .ref (ad 6), .ref (ad 7), .ref (ad 8), .ref (ad 9), .int 0])), ((ad 9), .inl (k 0, 5, .inl (fun _ => 0)))]) sz) := by
  refine gx_metE (Qc := fun A => gx_Qi D (fun (r : Int32) (u : Unit) => r = -2) (fun (u : Unit) => ([] : va_W)) A) (by decide) (Nat.le_of_ble_eq_true rfl) ?_
  intro p e s m below meth c A ls C hA hP hD hK hS hl
  obtain ⟨hx, hb, hr, hml, hown, hT, hlk, hin⟩ := id C
  have hown : s.vm.findClass RX6 = some m.cls := hown
  have hl : lv_has ls 2 [(0, .ref (ad 0)), (1, .int (-2))] := hl
  refine lv_iload_n hx hb dX6_refuse_0 rfl (lv_at hl 1 rfl) ?_
  refine lv_bipush (v := (-6)) hx hb dX6_refuse_1 (by decide) ?_
  refine lv_bipush (v := (-2)) hx hb dX6_refuse_3 (by decide) ?_
  refine gx_pi hP hS (gx_runS (na := 3) (As := [.int (-2), .int (-6), .int (-2)]) (rest := []) C hl.1 hK (gx_subP (wc := ([] : va_W)) hP [] rfl) ((hD.sub (ws' := ([] : va_W)) [] (by decide) rfl).weaken (fun _ _ _ _ => trivial)) (k_isBetween l D k (-2) (-6) (-2) _) gS_RX6_57 (by decide +kernel) rfl rfl ⟨Nat.le_of_ble_eq_true rfl, Nat.le_of_ble_eq_true rfl⟩ rfl rfl (Nat.le_of_ble_eq_true rfl) dX6_refuse_5 ⟨Nat.le_of_ble_eq_true rfl, Nat.le_of_ble_eq_true rfl⟩) (fun r_2 H locs pc_1 hP hS => ?_)
  have oc_1 : r_2 = 1 ∧ gx_b (-2) (-6) (-2) = true ∨ r_2 = 0 ∧ gx_b (-2) (-6) (-2) = false := pc_1
  clear pc_1
  rcases oc_1 with ⟨rfl, c_1⟩ | ⟨rfl, c_1⟩
  · refine lv_if_eq (tgt := 24) hx hb dX6_refuse_8 (by decide) (fun c_3 => absurd c_3 (by decide)) (fun c_3 => ?_)
    refine lv_aload_n hx hb dX6_refuse_11 rfl (lv_at hl 0 rfl) ?_
    refine va_get (D := D) (ci := 4) (v := .ref (ad 9)) (C := RX6) (T := TX6) (N := 10) hx hb hT iw_TX6 hown hK.1 hP 0 rfl rfl 8 (by decide) (hT _ wd_279) (fun _ h9 => h9) rfl dX6_refuse_12 ?_
    refine lv_bipush (v := (-2)) hx hb dX6_refuse_15 (by decide) ?_
    refine lv_iload_n hx hb dX6_refuse_17 rfl (lv_at hl 1 rfl) ?_
    refine lv_isub hx hb dX6_refuse_18 ?_
    refine gx_cst (v := 0) (by decide) ?_
    refine lv_dup2_11 hx hb dX6_refuse_19 rfl rfl ?_
    refine va_iald hx hb hK.1 hP 1 0 rfl rfl (gx_vin rfl) dX6_refuse_20 ?_
    refine gx_cst (v := 0) (rfl) ?_
    refine lv_iconst (v := 1) hx hb dX6_refuse_21 (by decide) ?_
    refine lv_iadd hx hb dX6_refuse_22 ?_
    refine gx_cst (v := 1) (by decide) ?_
    refine va_iast hx hb hK.1 hP hD hS 1 0 rfl rfl (gx_vin rfl) dX6_refuse_23 (fun H locs hP hD hS => ?_)
    obtain ⟨f_4, ef_4⟩ : ∃ f9, f9 = upd ((fun _ => 0) : Nat → Int32) (0 : Int32).toNatClampNeg 1 := ⟨_, rfl⟩
    have hP : va_P D gx_cl [((ad 0), .inr (4, [.ref (ad 1), .ref (ad 2), .ref (ad 3), .ref (ad 4), .ref (ad 5), .ref (ad 6), .ref (ad 7), .ref (ad 8), .ref (ad 9), .int 0])), ((ad 9), .inl (k 0, 5, .inl f_4))] H := by subst ef_4; exact hP
    have hD : va_D A [((ad 0), .inr (4, [.ref (ad 1), .ref (ad 2), .ref (ad 3), .ref (ad 4), .ref (ad 5), .ref (ad 6), .ref (ad 7), .ref (ad 8), .ref (ad 9), .int 0])), ((ad 9), .inl (k 0, 5, .inl f_4))] := by subst ef_4; exact hD
    refine lv_iload_n hx hb dX6_refuse_24 rfl (lv_at hl 1 rfl) ?_
    exact gx_retI C (u := ()) gx_nil gx_noneD hS (rfl) dX6_refuse_25
  · exact absurd c_1 (by first | decide | (rw [gx_bn]; decide) | simp [gx_bn])
set_option maxHeartbeats 4000000 in
set_option maxRecDepth 100000 in
theorem k_refuse4 (l : Launch) (D : va_G) (k : Nat → ClassId) (ad : Nat → Nat) (sz : Nat) : Met l yX6_refuse (.code yX6_refuse cX6_refuse 2 (some .int) :: gx_T) ({ frames := 1, cells := 0, slots := 0, locals := 22 }) (gx_Pre D k [.ref (ad 0), .int (-4)] ([((ad 0), .inr (4, [.ref (ad 1), .ref (ad 2), .ref (ad 3), .ref (ad 4), .ref (ad 5), .ref (ad 6), .ref (ad 7), .ref (ad 8), .ref (ad 9), .int 0])), ((ad 9), .inl (k 0, 5, .inl (fun _ => 0)))]) sz) (gx_Qi D (fun (r : Int32) (u : Unit) => r = -4) (fun (u : Unit) => ([] : va_W)) (va_A ([((ad 0), .inr (4, [.ref (ad 1), .ref (ad 2), .ref (ad 3), .ref (ad 4), .ref (ad 5), .ref (ad 6), .ref (ad 7), .ref (ad 8), .ref (ad 9), .int 0])), ((ad 9), .inl (k 0, 5, .inl (fun _ => 0)))]) sz)) 0 0 (va_A ([((ad 0), .inr (4, [.ref (ad 1), .ref (ad 2), .ref (ad 3), .ref (ad 4), .ref (ad 5), .ref (ad 6), .ref (ad 7), .ref (ad 8), .ref (ad 9), .int 0])), ((ad 9), .inl (k 0, 5, .inl (fun _ => 0)))]) sz) := by
  refine gx_metE (Qc := fun A => gx_Qi D (fun (r : Int32) (u : Unit) => r = -4) (fun (u : Unit) => ([] : va_W)) A) (by decide) (Nat.le_of_ble_eq_true rfl) ?_
  intro p e s m below meth c A ls C hA hP hD hK hS hl
  obtain ⟨hx, hb, hr, hml, hown, hT, hlk, hin⟩ := id C
  have hown : s.vm.findClass RX6 = some m.cls := hown
  have hl : lv_has ls 2 [(0, .ref (ad 0)), (1, .int (-4))] := hl
  refine lv_iload_n hx hb dX6_refuse_0 rfl (lv_at hl 1 rfl) ?_
  refine lv_bipush (v := (-6)) hx hb dX6_refuse_1 (by decide) ?_
  refine lv_bipush (v := (-2)) hx hb dX6_refuse_3 (by decide) ?_
  refine gx_pi hP hS (gx_runS (na := 3) (As := [.int (-4), .int (-6), .int (-2)]) (rest := []) C hl.1 hK (gx_subP (wc := ([] : va_W)) hP [] rfl) ((hD.sub (ws' := ([] : va_W)) [] (by decide) rfl).weaken (fun _ _ _ _ => trivial)) (k_isBetween l D k (-4) (-6) (-2) _) gS_RX6_57 (by decide +kernel) rfl rfl ⟨Nat.le_of_ble_eq_true rfl, Nat.le_of_ble_eq_true rfl⟩ rfl rfl (Nat.le_of_ble_eq_true rfl) dX6_refuse_5 ⟨Nat.le_of_ble_eq_true rfl, Nat.le_of_ble_eq_true rfl⟩) (fun r_2 H locs pc_1 hP hS => ?_)
  have oc_1 : r_2 = 1 ∧ gx_b (-4) (-6) (-2) = true ∨ r_2 = 0 ∧ gx_b (-4) (-6) (-2) = false := pc_1
  clear pc_1
  rcases oc_1 with ⟨rfl, c_1⟩ | ⟨rfl, c_1⟩
  · refine lv_if_eq (tgt := 24) hx hb dX6_refuse_8 (by decide) (fun c_3 => absurd c_3 (by decide)) (fun c_3 => ?_)
    refine lv_aload_n hx hb dX6_refuse_11 rfl (lv_at hl 0 rfl) ?_
    refine va_get (D := D) (ci := 4) (v := .ref (ad 9)) (C := RX6) (T := TX6) (N := 10) hx hb hT iw_TX6 hown hK.1 hP 0 rfl rfl 8 (by decide) (hT _ wd_279) (fun _ h9 => h9) rfl dX6_refuse_12 ?_
    refine lv_bipush (v := (-2)) hx hb dX6_refuse_15 (by decide) ?_
    refine lv_iload_n hx hb dX6_refuse_17 rfl (lv_at hl 1 rfl) ?_
    refine lv_isub hx hb dX6_refuse_18 ?_
    refine gx_cst (v := 2) (by decide) ?_
    refine lv_dup2_11 hx hb dX6_refuse_19 rfl rfl ?_
    refine va_iald hx hb hK.1 hP 1 0 rfl rfl (gx_vin rfl) dX6_refuse_20 ?_
    refine gx_cst (v := 0) (rfl) ?_
    refine lv_iconst (v := 1) hx hb dX6_refuse_21 (by decide) ?_
    refine lv_iadd hx hb dX6_refuse_22 ?_
    refine gx_cst (v := 1) (by decide) ?_
    refine va_iast hx hb hK.1 hP hD hS 1 0 rfl rfl (gx_vin rfl) dX6_refuse_23 (fun H locs hP hD hS => ?_)
    obtain ⟨f_4, ef_4⟩ : ∃ f9, f9 = upd ((fun _ => 0) : Nat → Int32) (2 : Int32).toNatClampNeg 1 := ⟨_, rfl⟩
    have hP : va_P D gx_cl [((ad 0), .inr (4, [.ref (ad 1), .ref (ad 2), .ref (ad 3), .ref (ad 4), .ref (ad 5), .ref (ad 6), .ref (ad 7), .ref (ad 8), .ref (ad 9), .int 0])), ((ad 9), .inl (k 0, 5, .inl f_4))] H := by subst ef_4; exact hP
    have hD : va_D A [((ad 0), .inr (4, [.ref (ad 1), .ref (ad 2), .ref (ad 3), .ref (ad 4), .ref (ad 5), .ref (ad 6), .ref (ad 7), .ref (ad 8), .ref (ad 9), .int 0])), ((ad 9), .inl (k 0, 5, .inl f_4))] := by subst ef_4; exact hD
    refine lv_iload_n hx hb dX6_refuse_24 rfl (lv_at hl 1 rfl) ?_
    exact gx_retI C (u := ()) gx_nil gx_noneD hS (rfl) dX6_refuse_25
  · exact absurd c_1 (by first | decide | (rw [gx_bn]; decide) | simp [gx_bn])
set_option maxHeartbeats 4000000 in
set_option maxRecDepth 100000 in
theorem k_refuse5 (l : Launch) (D : va_G) (k : Nat → ClassId) (ad : Nat → Nat) (sz : Nat) : Met l yX6_refuse (.code yX6_refuse cX6_refuse 2 (some .int) :: gx_T) ({ frames := 1, cells := 0, slots := 0, locals := 22 }) (gx_Pre D k [.ref (ad 0), .int (-5)] ([((ad 0), .inr (4, [.ref (ad 1), .ref (ad 2), .ref (ad 3), .ref (ad 4), .ref (ad 5), .ref (ad 6), .ref (ad 7), .ref (ad 8), .ref (ad 9), .int 0])), ((ad 9), .inl (k 0, 5, .inl (fun _ => 0)))]) sz) (gx_Qi D (fun (r : Int32) (u : Unit) => r = -5) (fun (u : Unit) => ([] : va_W)) (va_A ([((ad 0), .inr (4, [.ref (ad 1), .ref (ad 2), .ref (ad 3), .ref (ad 4), .ref (ad 5), .ref (ad 6), .ref (ad 7), .ref (ad 8), .ref (ad 9), .int 0])), ((ad 9), .inl (k 0, 5, .inl (fun _ => 0)))]) sz)) 0 0 (va_A ([((ad 0), .inr (4, [.ref (ad 1), .ref (ad 2), .ref (ad 3), .ref (ad 4), .ref (ad 5), .ref (ad 6), .ref (ad 7), .ref (ad 8), .ref (ad 9), .int 0])), ((ad 9), .inl (k 0, 5, .inl (fun _ => 0)))]) sz) := by
  refine gx_metE (Qc := fun A => gx_Qi D (fun (r : Int32) (u : Unit) => r = -5) (fun (u : Unit) => ([] : va_W)) A) (by decide) (Nat.le_of_ble_eq_true rfl) ?_
  intro p e s m below meth c A ls C hA hP hD hK hS hl
  obtain ⟨hx, hb, hr, hml, hown, hT, hlk, hin⟩ := id C
  have hown : s.vm.findClass RX6 = some m.cls := hown
  have hl : lv_has ls 2 [(0, .ref (ad 0)), (1, .int (-5))] := hl
  refine lv_iload_n hx hb dX6_refuse_0 rfl (lv_at hl 1 rfl) ?_
  refine lv_bipush (v := (-6)) hx hb dX6_refuse_1 (by decide) ?_
  refine lv_bipush (v := (-2)) hx hb dX6_refuse_3 (by decide) ?_
  refine gx_pi hP hS (gx_runS (na := 3) (As := [.int (-5), .int (-6), .int (-2)]) (rest := []) C hl.1 hK (gx_subP (wc := ([] : va_W)) hP [] rfl) ((hD.sub (ws' := ([] : va_W)) [] (by decide) rfl).weaken (fun _ _ _ _ => trivial)) (k_isBetween l D k (-5) (-6) (-2) _) gS_RX6_57 (by decide +kernel) rfl rfl ⟨Nat.le_of_ble_eq_true rfl, Nat.le_of_ble_eq_true rfl⟩ rfl rfl (Nat.le_of_ble_eq_true rfl) dX6_refuse_5 ⟨Nat.le_of_ble_eq_true rfl, Nat.le_of_ble_eq_true rfl⟩) (fun r_2 H locs pc_1 hP hS => ?_)
  have oc_1 : r_2 = 1 ∧ gx_b (-5) (-6) (-2) = true ∨ r_2 = 0 ∧ gx_b (-5) (-6) (-2) = false := pc_1
  clear pc_1
  rcases oc_1 with ⟨rfl, c_1⟩ | ⟨rfl, c_1⟩
  · refine lv_if_eq (tgt := 24) hx hb dX6_refuse_8 (by decide) (fun c_3 => absurd c_3 (by decide)) (fun c_3 => ?_)
    refine lv_aload_n hx hb dX6_refuse_11 rfl (lv_at hl 0 rfl) ?_
    refine va_get (D := D) (ci := 4) (v := .ref (ad 9)) (C := RX6) (T := TX6) (N := 10) hx hb hT iw_TX6 hown hK.1 hP 0 rfl rfl 8 (by decide) (hT _ wd_279) (fun _ h9 => h9) rfl dX6_refuse_12 ?_
    refine lv_bipush (v := (-2)) hx hb dX6_refuse_15 (by decide) ?_
    refine lv_iload_n hx hb dX6_refuse_17 rfl (lv_at hl 1 rfl) ?_
    refine lv_isub hx hb dX6_refuse_18 ?_
    refine gx_cst (v := 3) (by decide) ?_
    refine lv_dup2_11 hx hb dX6_refuse_19 rfl rfl ?_
    refine va_iald hx hb hK.1 hP 1 0 rfl rfl (gx_vin rfl) dX6_refuse_20 ?_
    refine gx_cst (v := 0) (rfl) ?_
    refine lv_iconst (v := 1) hx hb dX6_refuse_21 (by decide) ?_
    refine lv_iadd hx hb dX6_refuse_22 ?_
    refine gx_cst (v := 1) (by decide) ?_
    refine va_iast hx hb hK.1 hP hD hS 1 0 rfl rfl (gx_vin rfl) dX6_refuse_23 (fun H locs hP hD hS => ?_)
    obtain ⟨f_4, ef_4⟩ : ∃ f9, f9 = upd ((fun _ => 0) : Nat → Int32) (3 : Int32).toNatClampNeg 1 := ⟨_, rfl⟩
    have hP : va_P D gx_cl [((ad 0), .inr (4, [.ref (ad 1), .ref (ad 2), .ref (ad 3), .ref (ad 4), .ref (ad 5), .ref (ad 6), .ref (ad 7), .ref (ad 8), .ref (ad 9), .int 0])), ((ad 9), .inl (k 0, 5, .inl f_4))] H := by subst ef_4; exact hP
    have hD : va_D A [((ad 0), .inr (4, [.ref (ad 1), .ref (ad 2), .ref (ad 3), .ref (ad 4), .ref (ad 5), .ref (ad 6), .ref (ad 7), .ref (ad 8), .ref (ad 9), .int 0])), ((ad 9), .inl (k 0, 5, .inl f_4))] := by subst ef_4; exact hD
    refine lv_iload_n hx hb dX6_refuse_24 rfl (lv_at hl 1 rfl) ?_
    exact gx_retI C (u := ()) gx_nil gx_noneD hS (rfl) dX6_refuse_25
  · exact absurd c_1 (by first | decide | (rw [gx_bn]; decide) | simp [gx_bn])
set_option maxHeartbeats 4000000 in
set_option maxRecDepth 100000 in
theorem k_isEmpty (l : Launch) (D : va_G) (k : Nat → ClassId) (h0 : Nat) (e0 : Nat) (z0 : Int32) (a0 : Int32) (sz : Nat) : Met l yX3_isEmpty (.code yX3_isEmpty cX3_isEmpty 1 (some .boolean) :: gx_T) ({ frames := 0, cells := 0, slots := 0, locals := 0 }) (gx_Pre D k [.ref h0] ([(h0, .inr (1, [.ref e0, .int z0, .int a0, .int (-1)]))]) sz) (gx_Pi (fun r => r = 1)) 0 0 gx_No := by
  refine gx_metP (by decide) (Nat.le_of_ble_eq_true rfl) ?_
  intro p e s m below meth c ls C hP hD hK hS hl
  obtain ⟨hx, hb, hr, hml, hown, hT, hlk, hin⟩ := id C
  have hown : s.vm.findClass RX3 = some m.cls := hown
  have hl : lv_has ls 1 [(0, .ref h0)] := hl
  refine lv_aload_n hx hb dX3_isEmpty_0 rfl (lv_at hl 0 rfl) ?_
  refine va_get (D := D) (ci := 1) (v := .int (-1)) (C := RX3) (T := TX3) (N := 4) hx hb hT iw_TX3 hown hK.1 hP 0 rfl rfl 3 (by decide) (hT _ wd_259) (fun _ h9 => h9) rfl dX3_isEmpty_1 ?_
  refine lv_iconst (v := (-1)) hx hb dX3_isEmpty_4 (by decide) ?_
  refine lv_icmp_ne (tgt := 12) hx hb dX3_isEmpty_5 (by decide) (fun c_1 => absurd c_1 (by decide)) (fun c_1 => ?_)
  refine lv_iconst (v := 1) hx hb dX3_isEmpty_8 (by decide) ?_
  refine lv_goto (tgt := 13) hx hb dX3_isEmpty_9 (by decide) ?_
  exact gx_retPZ C hS rfl (rfl) dX3_isEmpty_13
set_option maxHeartbeats 4000000 in
set_option maxRecDepth 100000 in
theorem k_isRow (l : Launch) (D : va_G) (k : Nat → ClassId) (h0 : Nat) (e0 : Nat) (z0 : Int32) (a0 : Int32) (sz : Nat) : Met l yX3_isRow (.code yX3_isRow cX3_isRow 1 (some .boolean) :: gx_T) ({ frames := 0, cells := 0, slots := 0, locals := 0 }) (gx_Pre D k [.ref h0] ([(h0, .inr (1, [.ref e0, .int z0, .int a0, .int (-1)]))]) sz) (gx_Pi (fun r => r = 0)) 0 0 gx_No := by
  refine gx_metP (by decide) (Nat.le_of_ble_eq_true rfl) ?_
  intro p e s m below meth c ls C hP hD hK hS hl
  obtain ⟨hx, hb, hr, hml, hown, hT, hlk, hin⟩ := id C
  have hown : s.vm.findClass RX3 = some m.cls := hown
  have hl : lv_has ls 1 [(0, .ref h0)] := hl
  refine lv_aload_n hx hb dX3_isRow_0 rfl (lv_at hl 0 rfl) ?_
  refine va_get (D := D) (ci := 1) (v := .int (-1)) (C := RX3) (T := TX3) (N := 4) hx hb hT iw_TX3 hown hK.1 hP 0 rfl rfl 3 (by decide) (hT _ wd_259) (fun _ h9 => h9) rfl dX3_isRow_1 ?_
  refine lv_if_lt (tgt := 19) hx hb dX3_isRow_4 (by decide) (fun c_1 => ?_) (fun c_1 => absurd (by decide) c_1)
  refine lv_iconst (v := 0) hx hb dX3_isRow_19 (by decide) ?_
  exact gx_retPZ C hS rfl (rfl) dX3_isRow_20
set_option maxHeartbeats 4000000 in
set_option maxRecDepth 100000 in
theorem k_isRule (l : Launch) (D : va_G) (k : Nat → ClassId) (h0 : Nat) (e0 : Nat) (z0 : Int32) (a0 : Int32) (sz : Nat) : Met l yX3_isRule (.code yX3_isRule cX3_isRule 1 (some .boolean) :: gx_T) ({ frames := 0, cells := 0, slots := 0, locals := 0 }) (gx_Pre D k [.ref h0] ([(h0, .inr (1, [.ref e0, .int z0, .int a0, .int (-1)]))]) sz) (gx_Pi (fun r => r = 0)) 0 0 gx_No := by
  refine gx_metP (by decide) (Nat.le_of_ble_eq_true rfl) ?_
  intro p e s m below meth c ls C hP hD hK hS hl
  obtain ⟨hx, hb, hr, hml, hown, hT, hlk, hin⟩ := id C
  have hown : s.vm.findClass RX3 = some m.cls := hown
  have hl : lv_has ls 1 [(0, .ref h0)] := hl
  refine lv_aload_n hx hb dX3_isRule_0 rfl (lv_at hl 0 rfl) ?_
  refine va_get (D := D) (ci := 1) (v := .int (-1)) (C := RX3) (T := TX3) (N := 4) hx hb hT iw_TX3 hown hK.1 hP 0 rfl rfl 3 (by decide) (hT _ wd_259) (fun _ h9 => h9) rfl dX3_isRule_1 ?_
  refine lv_bipush (v := 10) hx hb dX3_isRule_4 (by decide) ?_
  refine lv_icmp_lt (tgt := 13) hx hb dX3_isRule_6 (by decide) (fun c_1 => ?_) (fun c_1 => absurd (by decide) c_1)
  refine lv_iconst (v := 0) hx hb dX3_isRule_13 (by decide) ?_
  exact gx_retPZ C hS rfl (rfl) dX3_isRule_14
end
