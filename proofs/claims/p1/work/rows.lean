section
-- ===== PART A: goes FIRST, ahead of the names: the tables' words, and 'selects' of the private methods out of them =====
/-- a private method of a class that the tables say can be made, by its rows of tables_1 -/
def lw_okq (q : MethodName × Nat) : Prop := (q.1.cls ≠ "java/lang/invoke/MethodHandle" ∧ q.1.cls ≠ "java/lang/invoke/VarHandle") ∧ Cond.instantiable q.1.cls q.2 ∈ tables_1 ∧ Cond.privateMethod q.1 ∈ tables_1 ∧ Cond.instanceMethod q.1 ∈ tables_1
theorem lw_p0 : lw_okq (⟨"EachRoadOnce", "refuse", "(I)I"⟩, 10) := ⟨⟨by decide +kernel, by decide +kernel⟩, List.mem_of_getElem? (i := 18) (by decide +kernel), List.mem_of_getElem? (i := 245) (by decide +kernel), List.mem_of_getElem? (i := 246) (by decide +kernel)⟩
theorem lw_p1 : lw_okq (⟨"EachRoadOnce", "rowTrouble", "(I)I"⟩, 10) := ⟨⟨by decide +kernel, by decide +kernel⟩, List.mem_of_getElem? (i := 18) (by decide +kernel), List.mem_of_getElem? (i := 260) (by decide +kernel), List.mem_of_getElem? (i := 261) (by decide +kernel)⟩
theorem lw_p2 : lw_okq (⟨"EachRoadOnce", "ruleTrouble", "(I)I"⟩, 10) := ⟨⟨by decide +kernel, by decide +kernel⟩, List.mem_of_getElem? (i := 18) (by decide +kernel), List.mem_of_getElem? (i := 314) (by decide +kernel), List.mem_of_getElem? (i := 315) (by decide +kernel)⟩
theorem lw_p3 : lw_okq (⟨"EachRoadOnce$Land", "isFresh", "(II)Z"⟩, 17) := ⟨⟨by decide +kernel, by decide +kernel⟩, List.mem_of_getElem? (i := 26) (by decide +kernel), List.mem_of_getElem? (i := 341) (by decide +kernel), List.mem_of_getElem? (i := 342) (by decide +kernel)⟩
theorem lw_p4 : lw_okq (⟨"EachRoadOnce", "isRoad", "(I)Z"⟩, 10) := ⟨⟨by decide +kernel, by decide +kernel⟩, List.mem_of_getElem? (i := 18) (by decide +kernel), List.mem_of_getElem? (i := 417) (by decide +kernel), List.mem_of_getElem? (i := 418) (by decide +kernel)⟩
theorem lw_p5 : lw_okq (⟨"EachRoadOnce$Tape", "advance", "()V"⟩, 6) := ⟨⟨by decide +kernel, by decide +kernel⟩, List.mem_of_getElem? (i := 122) (by decide +kernel), List.mem_of_getElem? (i := 451) (by decide +kernel), List.mem_of_getElem? (i := 452) (by decide +kernel)⟩
theorem lw_p6 : lw_okq (⟨"EachRoadOnce$Tape", "sortAt", "(I)I"⟩, 6) := ⟨⟨by decide +kernel, by decide +kernel⟩, List.mem_of_getElem? (i := 122) (by decide +kernel), List.mem_of_getElem? (i := 455) (by decide +kernel), List.mem_of_getElem? (i := 456) (by decide +kernel)⟩
theorem lw_p7 : lw_okq (⟨"EachRoadOnce$Tape", "readStatement", "(LEachRoadOnce$Land;)V"⟩, 6) := ⟨⟨by decide +kernel, by decide +kernel⟩, List.mem_of_getElem? (i := 122) (by decide +kernel), List.mem_of_getElem? (i := 459) (by decide +kernel), List.mem_of_getElem? (i := 460) (by decide +kernel)⟩
theorem lw_p8 : lw_okq (⟨"EachRoadOnce$Tape", "takes", "(Ljava/lang/String;Z)Z"⟩, 6) := ⟨⟨by decide +kernel, by decide +kernel⟩, List.mem_of_getElem? (i := 122) (by decide +kernel), List.mem_of_getElem? (i := 464) (by decide +kernel), List.mem_of_getElem? (i := 465) (by decide +kernel)⟩
theorem lw_p9 : lw_okq (⟨"EachRoadOnce$Tape", "readRoad", "(LEachRoadOnce$Land;)V"⟩, 6) := ⟨⟨by decide +kernel, by decide +kernel⟩, List.mem_of_getElem? (i := 122) (by decide +kernel), List.mem_of_getElem? (i := 516) (by decide +kernel), List.mem_of_getElem? (i := 517) (by decide +kernel)⟩
theorem lw_p10 : lw_okq (⟨"EachRoadOnce$Tape", "takeNumber", "(III)I"⟩, 6) := ⟨⟨by decide +kernel, by decide +kernel⟩, List.mem_of_getElem? (i := 122) (by decide +kernel), List.mem_of_getElem? (i := 520) (by decide +kernel), List.mem_of_getElem? (i := 521) (by decide +kernel)⟩
theorem lw_p11 : lw_okq (⟨"EachRoadOnce$Tape", "numberHere", "()I"⟩, 6) := ⟨⟨by decide +kernel, by decide +kernel⟩, List.mem_of_getElem? (i := 122) (by decide +kernel), List.mem_of_getElem? (i := 524) (by decide +kernel), List.mem_of_getElem? (i := 525) (by decide +kernel)⟩
theorem lw_p12 : lw_okq (⟨"EachRoadOnce$Tape", "stopHere", "()V"⟩, 6) := ⟨⟨by decide +kernel, by decide +kernel⟩, List.mem_of_getElem? (i := 122) (by decide +kernel), List.mem_of_getElem? (i := 528) (by decide +kernel), List.mem_of_getElem? (i := 529) (by decide +kernel)⟩
theorem lw_p13 : lw_okq (⟨"EachRoadOnce$Tape", "readOne", "(LEachRoadOnce$Land;)V"⟩, 6) := ⟨⟨by decide +kernel, by decide +kernel⟩, List.mem_of_getElem? (i := 122) (by decide +kernel), List.mem_of_getElem? (i := 536) (by decide +kernel), List.mem_of_getElem? (i := 537) (by decide +kernel)⟩
theorem lw_p14 : lw_okq (⟨"EachRoadOnce$Tape", "readGone", "(LEachRoadOnce$Land;)V"⟩, 6) := ⟨⟨by decide +kernel, by decide +kernel⟩, List.mem_of_getElem? (i := 122) (by decide +kernel), List.mem_of_getElem? (i := 542) (by decide +kernel), List.mem_of_getElem? (i := 543) (by decide +kernel)⟩
theorem lw_p15 : lw_okq (⟨"EachRoadOnce$Tape", "readAt", "(LEachRoadOnce$Land;)V"⟩, 6) := ⟨⟨by decide +kernel, by decide +kernel⟩, List.mem_of_getElem? (i := 122) (by decide +kernel), List.mem_of_getElem? (i := 551) (by decide +kernel), List.mem_of_getElem? (i := 552) (by decide +kernel)⟩
def lw_privs_1 : List (MethodName × Nat) := [(⟨"EachRoadOnce", "refuse", "(I)I"⟩, 10), (⟨"EachRoadOnce", "rowTrouble", "(I)I"⟩, 10), (⟨"EachRoadOnce", "ruleTrouble", "(I)I"⟩, 10), (⟨"EachRoadOnce$Land", "isFresh", "(II)Z"⟩, 17), (⟨"EachRoadOnce", "isRoad", "(I)Z"⟩, 10), (⟨"EachRoadOnce$Tape", "advance", "()V"⟩, 6), (⟨"EachRoadOnce$Tape", "sortAt", "(I)I"⟩, 6), (⟨"EachRoadOnce$Tape", "readStatement", "(LEachRoadOnce$Land;)V"⟩, 6), (⟨"EachRoadOnce$Tape", "takes", "(Ljava/lang/String;Z)Z"⟩, 6), (⟨"EachRoadOnce$Tape", "readRoad", "(LEachRoadOnce$Land;)V"⟩, 6), (⟨"EachRoadOnce$Tape", "takeNumber", "(III)I"⟩, 6), (⟨"EachRoadOnce$Tape", "numberHere", "()I"⟩, 6), (⟨"EachRoadOnce$Tape", "stopHere", "()V"⟩, 6), (⟨"EachRoadOnce$Tape", "readOne", "(LEachRoadOnce$Land;)V"⟩, 6), (⟨"EachRoadOnce$Tape", "readGone", "(LEachRoadOnce$Land;)V"⟩, 6), (⟨"EachRoadOnce$Tape", "readAt", "(LEachRoadOnce$Land;)V"⟩, 6)]
theorem lw_r1 : ∀ q ∈ lw_privs_1, lw_okq q := List.forall_mem_cons.mpr ⟨lw_p0, List.forall_mem_cons.mpr ⟨lw_p1, List.forall_mem_cons.mpr ⟨lw_p2, List.forall_mem_cons.mpr ⟨lw_p3, List.forall_mem_cons.mpr ⟨lw_p4, List.forall_mem_cons.mpr ⟨lw_p5, List.forall_mem_cons.mpr ⟨lw_p6, List.forall_mem_cons.mpr ⟨lw_p7, List.forall_mem_cons.mpr ⟨lw_p8, List.forall_mem_cons.mpr ⟨lw_p9, List.forall_mem_cons.mpr ⟨lw_p10, List.forall_mem_cons.mpr ⟨lw_p11, List.forall_mem_cons.mpr ⟨lw_p12, List.forall_mem_cons.mpr ⟨lw_p13, List.forall_mem_cons.mpr ⟨lw_p14, List.forall_mem_cons.mpr ⟨lw_p15, fun _ h => absurd h List.not_mem_nil⟩⟩⟩⟩⟩⟩⟩⟩⟩⟩⟩⟩⟩⟩⟩⟩
theorem lw_p16 : lw_okq (⟨"EachRoadOnce$Tape", "readAnew", "(LEachRoadOnce$Land;)V"⟩, 6) := ⟨⟨by decide +kernel, by decide +kernel⟩, List.mem_of_getElem? (i := 122) (by decide +kernel), List.mem_of_getElem? (i := 557) (by decide +kernel), List.mem_of_getElem? (i := 558) (by decide +kernel)⟩
theorem lw_p17 : lw_okq (⟨"EachRoadOnce$Tape", "readShut", "(LEachRoadOnce$Land;)V"⟩, 6) := ⟨⟨by decide +kernel, by decide +kernel⟩, List.mem_of_getElem? (i := 122) (by decide +kernel), List.mem_of_getElem? (i := 562) (by decide +kernel), List.mem_of_getElem? (i := 563) (by decide +kernel)⟩
theorem lw_p18 : lw_okq (⟨"EachRoadOnce", "isOne", "(I)Z"⟩, 10) := ⟨⟨by decide +kernel, by decide +kernel⟩, List.mem_of_getElem? (i := 18) (by decide +kernel), List.mem_of_getElem? (i := 575) (by decide +kernel), List.mem_of_getElem? (i := 576) (by decide +kernel)⟩
theorem lw_p19 : lw_okq (⟨"EachRoadOnce", "stretchTrouble", "(II)I"⟩, 10) := ⟨⟨by decide +kernel, by decide +kernel⟩, List.mem_of_getElem? (i := 18) (by decide +kernel), List.mem_of_getElem? (i := 649) (by decide +kernel), List.mem_of_getElem? (i := 650) (by decide +kernel)⟩
theorem lw_p20 : lw_okq (⟨"EachRoadOnce", "firstNotGone", "(ILEachRoadOnce$Shelf;I)I"⟩, 10) := ⟨⟨by decide +kernel, by decide +kernel⟩, List.mem_of_getElem? (i := 18) (by decide +kernel), List.mem_of_getElem? (i := 653) (by decide +kernel), List.mem_of_getElem? (i := 654) (by decide +kernel)⟩
theorem lw_p21 : lw_okq (⟨"EachRoadOnce$Trails", "spreadFrom", "(ILEachRoadOnce$Shelf;I)V"⟩, 7) := ⟨⟨by decide +kernel, by decide +kernel⟩, List.mem_of_getElem? (i := 151) (by decide +kernel), List.mem_of_getElem? (i := 745) (by decide +kernel), List.mem_of_getElem? (i := 746) (by decide +kernel)⟩
theorem lw_p22 : lw_okq (⟨"EachRoadOnce$Trails", "lengthOf", "(II)I"⟩, 7) := ⟨⟨by decide +kernel, by decide +kernel⟩, List.mem_of_getElem? (i := 151) (by decide +kernel), List.mem_of_getElem? (i := 756) (by decide +kernel), List.mem_of_getElem? (i := 757) (by decide +kernel)⟩
theorem lw_p23 : lw_okq (⟨"EachRoadOnce", "meetingPlace", "(II)I"⟩, 10) := ⟨⟨by decide +kernel, by decide +kernel⟩, List.mem_of_getElem? (i := 18) (by decide +kernel), List.mem_of_getElem? (i := 802) (by decide +kernel), List.mem_of_getElem? (i := 803) (by decide +kernel)⟩
theorem lw_p24 : lw_okq (⟨"EachRoadOnce", "filledShelves", "()I"⟩, 10) := ⟨⟨by decide +kernel, by decide +kernel⟩, List.mem_of_getElem? (i := 18) (by decide +kernel), List.mem_of_getElem? (i := 849) (by decide +kernel), List.mem_of_getElem? (i := 850) (by decide +kernel)⟩
theorem lw_p25 : lw_okq (⟨"EachRoadOnceModel", "refuse", "(I)I"⟩, 37) := ⟨⟨by decide +kernel, by decide +kernel⟩, List.mem_of_getElem? (i := 853) (by decide +kernel), List.mem_of_getElem? (i := 985) (by decide +kernel), List.mem_of_getElem? (i := 986) (by decide +kernel)⟩
theorem lw_p26 : lw_okq (⟨"EachRoadOnceModel", "noRow", "(I)I"⟩, 37) := ⟨⟨by decide +kernel, by decide +kernel⟩, List.mem_of_getElem? (i := 853) (by decide +kernel), List.mem_of_getElem? (i := 993) (by decide +kernel), List.mem_of_getElem? (i := 994) (by decide +kernel)⟩
theorem lw_p27 : lw_okq (⟨"EachRoadOnceModel", "nextBy", "(IIII)I"⟩, 37) := ⟨⟨by decide +kernel, by decide +kernel⟩, List.mem_of_getElem? (i := 853) (by decide +kernel), List.mem_of_getElem? (i := 1025) (by decide +kernel), List.mem_of_getElem? (i := 1026) (by decide +kernel)⟩
theorem lw_p28 : lw_okq (⟨"EachRoadOnceModel", "hereOf", "(I)I"⟩, 37) := ⟨⟨by decide +kernel, by decide +kernel⟩, List.mem_of_getElem? (i := 853) (by decide +kernel), List.mem_of_getElem? (i := 1029) (by decide +kernel), List.mem_of_getElem? (i := 1030) (by decide +kernel)⟩
theorem lw_p29 : lw_okq (⟨"EachRoadOnceModel", "leftTo", "(I)I"⟩, 37) := ⟨⟨by decide +kernel, by decide +kernel⟩, List.mem_of_getElem? (i := 853) (by decide +kernel), List.mem_of_getElem? (i := 1033) (by decide +kernel), List.mem_of_getElem? (i := 1034) (by decide +kernel)⟩
theorem lw_p30 : lw_okq (⟨"EachRoadOnceModel", "isLeft", "(II)Z"⟩, 37) := ⟨⟨by decide +kernel, by decide +kernel⟩, List.mem_of_getElem? (i := 853) (by decide +kernel), List.mem_of_getElem? (i := 1037) (by decide +kernel), List.mem_of_getElem? (i := 1038) (by decide +kernel)⟩
theorem lw_p31 : lw_okq (⟨"EachRoadOnceModel", "isAt", "(II)Z"⟩, 37) := ⟨⟨by decide +kernel, by decide +kernel⟩, List.mem_of_getElem? (i := 853) (by decide +kernel), List.mem_of_getElem? (i := 1041) (by decide +kernel), List.mem_of_getElem? (i := 1042) (by decide +kernel)⟩
def lw_privs_2 : List (MethodName × Nat) := [(⟨"EachRoadOnce$Tape", "readAnew", "(LEachRoadOnce$Land;)V"⟩, 6), (⟨"EachRoadOnce$Tape", "readShut", "(LEachRoadOnce$Land;)V"⟩, 6), (⟨"EachRoadOnce", "isOne", "(I)Z"⟩, 10), (⟨"EachRoadOnce", "stretchTrouble", "(II)I"⟩, 10), (⟨"EachRoadOnce", "firstNotGone", "(ILEachRoadOnce$Shelf;I)I"⟩, 10), (⟨"EachRoadOnce$Trails", "spreadFrom", "(ILEachRoadOnce$Shelf;I)V"⟩, 7), (⟨"EachRoadOnce$Trails", "lengthOf", "(II)I"⟩, 7), (⟨"EachRoadOnce", "meetingPlace", "(II)I"⟩, 10), (⟨"EachRoadOnce", "filledShelves", "()I"⟩, 10), (⟨"EachRoadOnceModel", "refuse", "(I)I"⟩, 37), (⟨"EachRoadOnceModel", "noRow", "(I)I"⟩, 37), (⟨"EachRoadOnceModel", "nextBy", "(IIII)I"⟩, 37), (⟨"EachRoadOnceModel", "hereOf", "(I)I"⟩, 37), (⟨"EachRoadOnceModel", "leftTo", "(I)I"⟩, 37), (⟨"EachRoadOnceModel", "isLeft", "(II)Z"⟩, 37), (⟨"EachRoadOnceModel", "isAt", "(II)Z"⟩, 37)]
theorem lw_r2 : ∀ q ∈ lw_privs_2, lw_okq q := List.forall_mem_cons.mpr ⟨lw_p16, List.forall_mem_cons.mpr ⟨lw_p17, List.forall_mem_cons.mpr ⟨lw_p18, List.forall_mem_cons.mpr ⟨lw_p19, List.forall_mem_cons.mpr ⟨lw_p20, List.forall_mem_cons.mpr ⟨lw_p21, List.forall_mem_cons.mpr ⟨lw_p22, List.forall_mem_cons.mpr ⟨lw_p23, List.forall_mem_cons.mpr ⟨lw_p24, List.forall_mem_cons.mpr ⟨lw_p25, List.forall_mem_cons.mpr ⟨lw_p26, List.forall_mem_cons.mpr ⟨lw_p27, List.forall_mem_cons.mpr ⟨lw_p28, List.forall_mem_cons.mpr ⟨lw_p29, List.forall_mem_cons.mpr ⟨lw_p30, List.forall_mem_cons.mpr ⟨lw_p31, fun _ h => absurd h List.not_mem_nil⟩⟩⟩⟩⟩⟩⟩⟩⟩⟩⟩⟩⟩⟩⟩⟩
theorem lw_p32 : lw_okq (⟨"EachRoadOnceModel", "isSafeBehind", "(II)Z"⟩, 37) := ⟨⟨by decide +kernel, by decide +kernel⟩, List.mem_of_getElem? (i := 853) (by decide +kernel), List.mem_of_getElem? (i := 1045) (by decide +kernel), List.mem_of_getElem? (i := 1046) (by decide +kernel)⟩
theorem lw_p33 : lw_okq (⟨"EachRoadOnceModel", "otherOf", "(II)I"⟩, 37) := ⟨⟨by decide +kernel, by decide +kernel⟩, List.mem_of_getElem? (i := 853) (by decide +kernel), List.mem_of_getElem? (i := 1049) (by decide +kernel), List.mem_of_getElem? (i := 1050) (by decide +kernel)⟩
theorem lw_p34 : lw_okq (⟨"EachRoadOnceModel", "reachBy", "(II)I"⟩, 37) := ⟨⟨by decide +kernel, by decide +kernel⟩, List.mem_of_getElem? (i := 853) (by decide +kernel), List.mem_of_getElem? (i := 1053) (by decide +kernel), List.mem_of_getElem? (i := 1054) (by decide +kernel)⟩
theorem lw_p35 : lw_okq (⟨"EachRoadOnceModel", "byMiles", "(IZ)I"⟩, 37) := ⟨⟨by decide +kernel, by decide +kernel⟩, List.mem_of_getElem? (i := 853) (by decide +kernel), List.mem_of_getElem? (i := 1057) (by decide +kernel), List.mem_of_getElem? (i := 1058) (by decide +kernel)⟩
theorem lw_p36 : lw_okq (⟨"EachRoadOnceModel", "newRoad", "()V"⟩, 37) := ⟨⟨by decide +kernel, by decide +kernel⟩, List.mem_of_getElem? (i := 853) (by decide +kernel), List.mem_of_getElem? (i := 1072) (by decide +kernel), List.mem_of_getElem? (i := 1073) (by decide +kernel)⟩
theorem lw_p37 : lw_okq (⟨"EachRoadOnceModel", "newOne", "(I)V"⟩, 37) := ⟨⟨by decide +kernel, by decide +kernel⟩, List.mem_of_getElem? (i := 853) (by decide +kernel), List.mem_of_getElem? (i := 1080) (by decide +kernel), List.mem_of_getElem? (i := 1081) (by decide +kernel)⟩
theorem lw_p38 : lw_okq (⟨"EachRoadOnceModel", "isRoad", "(J)Z"⟩, 37) := ⟨⟨by decide +kernel, by decide +kernel⟩, List.mem_of_getElem? (i := 853) (by decide +kernel), List.mem_of_getElem? (i := 1088) (by decide +kernel), List.mem_of_getElem? (i := 1089) (by decide +kernel)⟩
theorem lw_p39 : lw_okq (⟨"EachRoadOnceModel", "fresh", "()LEachRoadOnceModel;"⟩, 37) := ⟨⟨by decide +kernel, by decide +kernel⟩, List.mem_of_getElem? (i := 853) (by decide +kernel), List.mem_of_getElem? (i := 1108) (by decide +kernel), List.mem_of_getElem? (i := 1109) (by decide +kernel)⟩
theorem lw_p40 : lw_okq (⟨"EachRoadOnceModel", "takeFrom", "(LEachRoadOnceModel;)V"⟩, 37) := ⟨⟨by decide +kernel, by decide +kernel⟩, List.mem_of_getElem? (i := 853) (by decide +kernel), List.mem_of_getElem? (i := 1114) (by decide +kernel), List.mem_of_getElem? (i := 1115) (by decide +kernel)⟩
theorem lw_p41 : lw_okq (⟨"EachRoadOnceModel", "readAll", "()Z"⟩, 37) := ⟨⟨by decide +kernel, by decide +kernel⟩, List.mem_of_getElem? (i := 853) (by decide +kernel), List.mem_of_getElem? (i := 1121) (by decide +kernel), List.mem_of_getElem? (i := 1122) (by decide +kernel)⟩
theorem lw_p42 : lw_okq (⟨"EachRoadOnceModel", "look", "()V"⟩, 37) := ⟨⟨by decide +kernel, by decide +kernel⟩, List.mem_of_getElem? (i := 853) (by decide +kernel), List.mem_of_getElem? (i := 1125) (by decide +kernel), List.mem_of_getElem? (i := 1126) (by decide +kernel)⟩
theorem lw_p43 : lw_okq (⟨"EachRoadOnceModel", "statement", "()Z"⟩, 37) := ⟨⟨by decide +kernel, by decide +kernel⟩, List.mem_of_getElem? (i := 853) (by decide +kernel), List.mem_of_getElem? (i := 1138) (by decide +kernel), List.mem_of_getElem? (i := 1139) (by decide +kernel)⟩
theorem lw_p44 : lw_okq (⟨"EachRoadOnceModel", "isWord", "(Ljava/lang/String;)Z"⟩, 37) := ⟨⟨by decide +kernel, by decide +kernel⟩, List.mem_of_getElem? (i := 853) (by decide +kernel), List.mem_of_getElem? (i := 1143) (by decide +kernel), List.mem_of_getElem? (i := 1144) (by decide +kernel)⟩
theorem lw_p45 : lw_okq (⟨"EachRoadOnceModel", "roadTold", "()Z"⟩, 37) := ⟨⟨by decide +kernel, by decide +kernel⟩, List.mem_of_getElem? (i := 853) (by decide +kernel), List.mem_of_getElem? (i := 1149) (by decide +kernel), List.mem_of_getElem? (i := 1150) (by decide +kernel)⟩
theorem lw_p46 : lw_okq (⟨"EachRoadOnceModel", "tells", "(Ljava/lang/String;III)Z"⟩, 37) := ⟨⟨by decide +kernel, by decide +kernel⟩, List.mem_of_getElem? (i := 853) (by decide +kernel), List.mem_of_getElem? (i := 1153) (by decide +kernel), List.mem_of_getElem? (i := 1154) (by decide +kernel)⟩
theorem lw_p47 : lw_okq (⟨"EachRoadOnceModel", "wrong", "()Z"⟩, 37) := ⟨⟨by decide +kernel, by decide +kernel⟩, List.mem_of_getElem? (i := 853) (by decide +kernel), List.mem_of_getElem? (i := 1157) (by decide +kernel), List.mem_of_getElem? (i := 1158) (by decide +kernel)⟩
def lw_privs_3 : List (MethodName × Nat) := [(⟨"EachRoadOnceModel", "isSafeBehind", "(II)Z"⟩, 37), (⟨"EachRoadOnceModel", "otherOf", "(II)I"⟩, 37), (⟨"EachRoadOnceModel", "reachBy", "(II)I"⟩, 37), (⟨"EachRoadOnceModel", "byMiles", "(IZ)I"⟩, 37), (⟨"EachRoadOnceModel", "newRoad", "()V"⟩, 37), (⟨"EachRoadOnceModel", "newOne", "(I)V"⟩, 37), (⟨"EachRoadOnceModel", "isRoad", "(J)Z"⟩, 37), (⟨"EachRoadOnceModel", "fresh", "()LEachRoadOnceModel;"⟩, 37), (⟨"EachRoadOnceModel", "takeFrom", "(LEachRoadOnceModel;)V"⟩, 37), (⟨"EachRoadOnceModel", "readAll", "()Z"⟩, 37), (⟨"EachRoadOnceModel", "look", "()V"⟩, 37), (⟨"EachRoadOnceModel", "statement", "()Z"⟩, 37), (⟨"EachRoadOnceModel", "isWord", "(Ljava/lang/String;)Z"⟩, 37), (⟨"EachRoadOnceModel", "roadTold", "()Z"⟩, 37), (⟨"EachRoadOnceModel", "tells", "(Ljava/lang/String;III)Z"⟩, 37), (⟨"EachRoadOnceModel", "wrong", "()Z"⟩, 37)]
theorem lw_r3 : ∀ q ∈ lw_privs_3, lw_okq q := List.forall_mem_cons.mpr ⟨lw_p32, List.forall_mem_cons.mpr ⟨lw_p33, List.forall_mem_cons.mpr ⟨lw_p34, List.forall_mem_cons.mpr ⟨lw_p35, List.forall_mem_cons.mpr ⟨lw_p36, List.forall_mem_cons.mpr ⟨lw_p37, List.forall_mem_cons.mpr ⟨lw_p38, List.forall_mem_cons.mpr ⟨lw_p39, List.forall_mem_cons.mpr ⟨lw_p40, List.forall_mem_cons.mpr ⟨lw_p41, List.forall_mem_cons.mpr ⟨lw_p42, List.forall_mem_cons.mpr ⟨lw_p43, List.forall_mem_cons.mpr ⟨lw_p44, List.forall_mem_cons.mpr ⟨lw_p45, List.forall_mem_cons.mpr ⟨lw_p46, List.forall_mem_cons.mpr ⟨lw_p47, fun _ h => absurd h List.not_mem_nil⟩⟩⟩⟩⟩⟩⟩⟩⟩⟩⟩⟩⟩⟩⟩⟩
theorem lw_p48 : lw_okq (⟨"EachRoadOnceModel", "number", "(III)Z"⟩, 37) := ⟨⟨by decide +kernel, by decide +kernel⟩, List.mem_of_getElem? (i := 853) (by decide +kernel), List.mem_of_getElem? (i := 1161) (by decide +kernel), List.mem_of_getElem? (i := 1162) (by decide +kernel)⟩
theorem lw_p49 : lw_okq (⟨"EachRoadOnceModel", "isOne", "(I)Z"⟩, 37) := ⟨⟨by decide +kernel, by decide +kernel⟩, List.mem_of_getElem? (i := 853) (by decide +kernel), List.mem_of_getElem? (i := 1181) (by decide +kernel), List.mem_of_getElem? (i := 1182) (by decide +kernel)⟩
theorem lw_p50 : lw_okq (⟨"EachRoadOnceModel", "isSafe", "(I)Z"⟩, 37) := ⟨⟨by decide +kernel, by decide +kernel⟩, List.mem_of_getElem? (i := 853) (by decide +kernel), List.mem_of_getElem? (i := 1206) (by decide +kernel), List.mem_of_getElem? (i := 1207) (by decide +kernel)⟩
theorem lw_p51 : lw_okq (⟨"EachRoadOnceModel", "goes", "(II)V"⟩, 37) := ⟨⟨by decide +kernel, by decide +kernel⟩, List.mem_of_getElem? (i := 853) (by decide +kernel), List.mem_of_getElem? (i := 1214) (by decide +kernel), List.mem_of_getElem? (i := 1215) (by decide +kernel)⟩
theorem lw_p52 : lw_okq (⟨"EachRoadOnceModel", "noRule", "(I)I"⟩, 37) := ⟨⟨by decide +kernel, by decide +kernel⟩, List.mem_of_getElem? (i := 853) (by decide +kernel), List.mem_of_getElem? (i := 1226) (by decide +kernel), List.mem_of_getElem? (i := 1227) (by decide +kernel)⟩
theorem lw_p53 : lw_okq (⟨"EachRoadOnceModel", "runs", "(IIII)I"⟩, 37) := ⟨⟨by decide +kernel, by decide +kernel⟩, List.mem_of_getElem? (i := 853) (by decide +kernel), List.mem_of_getElem? (i := 1234) (by decide +kernel), List.mem_of_getElem? (i := 1235) (by decide +kernel)⟩
theorem lw_p54 : lw_okq (⟨"EachRoadOnceModel", "noTold", "(IIII)I"⟩, 37) := ⟨⟨by decide +kernel, by decide +kernel⟩, List.mem_of_getElem? (i := 853) (by decide +kernel), List.mem_of_getElem? (i := 1250) (by decide +kernel), List.mem_of_getElem? (i := 1251) (by decide +kernel)⟩
theorem lw_p55 : lw_okq (⟨"EachRoadOnceModel", "goThrough", "(III)I"⟩, 37) := ⟨⟨by decide +kernel, by decide +kernel⟩, List.mem_of_getElem? (i := 853) (by decide +kernel), List.mem_of_getElem? (i := 1254) (by decide +kernel), List.mem_of_getElem? (i := 1255) (by decide +kernel)⟩
theorem lw_p56 : lw_okq (⟨"EachRoadOnceModel", "theseOf", "(I)I"⟩, 37) := ⟨⟨by decide +kernel, by decide +kernel⟩, List.mem_of_getElem? (i := 853) (by decide +kernel), List.mem_of_getElem? (i := 1267) (by decide +kernel), List.mem_of_getElem? (i := 1268) (by decide +kernel)⟩
theorem lw_p57 : lw_okq (⟨"EachRoadOnceModel", "endsOf", "(I)I"⟩, 37) := ⟨⟨by decide +kernel, by decide +kernel⟩, List.mem_of_getElem? (i := 853) (by decide +kernel), List.mem_of_getElem? (i := 1271) (by decide +kernel), List.mem_of_getElem? (i := 1272) (by decide +kernel)⟩
theorem lw_p58 : lw_okq (⟨"EachRoadOnceModel", "oddOf", "(I)I"⟩, 37) := ⟨⟨by decide +kernel, by decide +kernel⟩, List.mem_of_getElem? (i := 853) (by decide +kernel), List.mem_of_getElem? (i := 1275) (by decide +kernel), List.mem_of_getElem? (i := 1276) (by decide +kernel)⟩
theorem lw_p59 : lw_okq (⟨"EachRoadOnceModel", "inOne", "(II)I"⟩, 37) := ⟨⟨by decide +kernel, by decide +kernel⟩, List.mem_of_getElem? (i := 853) (by decide +kernel), List.mem_of_getElem? (i := 1286) (by decide +kernel), List.mem_of_getElem? (i := 1287) (by decide +kernel)⟩
theorem lw_p60 : lw_okq (⟨"EachRoadOnceModel", "goesOn", "(III)Z"⟩, 37) := ⟨⟨by decide +kernel, by decide +kernel⟩, List.mem_of_getElem? (i := 853) (by decide +kernel), List.mem_of_getElem? (i := 1294) (by decide +kernel), List.mem_of_getElem? (i := 1295) (by decide +kernel)⟩
theorem lw_p61 : lw_okq (⟨"EachRoadOnceModel", "listOf", "(I)I"⟩, 37) := ⟨⟨by decide +kernel, by decide +kernel⟩, List.mem_of_getElem? (i := 853) (by decide +kernel), List.mem_of_getElem? (i := 1306) (by decide +kernel), List.mem_of_getElem? (i := 1307) (by decide +kernel)⟩
theorem lw_p62 : lw_okq (⟨"EachRoadOnceModel", "areTwo", "(III)Z"⟩, 37) := ⟨⟨by decide +kernel, by decide +kernel⟩, List.mem_of_getElem? (i := 853) (by decide +kernel), List.mem_of_getElem? (i := 1314) (by decide +kernel), List.mem_of_getElem? (i := 1315) (by decide +kernel)⟩
theorem lw_p63 : lw_okq (⟨"EachRoadOnceModel", "findFlow", "(III)I"⟩, 37) := ⟨⟨by decide +kernel, by decide +kernel⟩, List.mem_of_getElem? (i := 853) (by decide +kernel), List.mem_of_getElem? (i := 1318) (by decide +kernel), List.mem_of_getElem? (i := 1319) (by decide +kernel)⟩
def lw_privs_4 : List (MethodName × Nat) := [(⟨"EachRoadOnceModel", "number", "(III)Z"⟩, 37), (⟨"EachRoadOnceModel", "isOne", "(I)Z"⟩, 37), (⟨"EachRoadOnceModel", "isSafe", "(I)Z"⟩, 37), (⟨"EachRoadOnceModel", "goes", "(II)V"⟩, 37), (⟨"EachRoadOnceModel", "noRule", "(I)I"⟩, 37), (⟨"EachRoadOnceModel", "runs", "(IIII)I"⟩, 37), (⟨"EachRoadOnceModel", "noTold", "(IIII)I"⟩, 37), (⟨"EachRoadOnceModel", "goThrough", "(III)I"⟩, 37), (⟨"EachRoadOnceModel", "theseOf", "(I)I"⟩, 37), (⟨"EachRoadOnceModel", "endsOf", "(I)I"⟩, 37), (⟨"EachRoadOnceModel", "oddOf", "(I)I"⟩, 37), (⟨"EachRoadOnceModel", "inOne", "(II)I"⟩, 37), (⟨"EachRoadOnceModel", "goesOn", "(III)Z"⟩, 37), (⟨"EachRoadOnceModel", "listOf", "(I)I"⟩, 37), (⟨"EachRoadOnceModel", "areTwo", "(III)Z"⟩, 37), (⟨"EachRoadOnceModel", "findFlow", "(III)I"⟩, 37)]
theorem lw_r4 : ∀ q ∈ lw_privs_4, lw_okq q := List.forall_mem_cons.mpr ⟨lw_p48, List.forall_mem_cons.mpr ⟨lw_p49, List.forall_mem_cons.mpr ⟨lw_p50, List.forall_mem_cons.mpr ⟨lw_p51, List.forall_mem_cons.mpr ⟨lw_p52, List.forall_mem_cons.mpr ⟨lw_p53, List.forall_mem_cons.mpr ⟨lw_p54, List.forall_mem_cons.mpr ⟨lw_p55, List.forall_mem_cons.mpr ⟨lw_p56, List.forall_mem_cons.mpr ⟨lw_p57, List.forall_mem_cons.mpr ⟨lw_p58, List.forall_mem_cons.mpr ⟨lw_p59, List.forall_mem_cons.mpr ⟨lw_p60, List.forall_mem_cons.mpr ⟨lw_p61, List.forall_mem_cons.mpr ⟨lw_p62, List.forall_mem_cons.mpr ⟨lw_p63, fun _ h => absurd h List.not_mem_nil⟩⟩⟩⟩⟩⟩⟩⟩⟩⟩⟩⟩⟩⟩⟩⟩
theorem lw_p64 : lw_okq (⟨"EachRoadOnceModel", "findWay", "(II)I"⟩, 37) := ⟨⟨by decide +kernel, by decide +kernel⟩, List.mem_of_getElem? (i := 853) (by decide +kernel), List.mem_of_getElem? (i := 1322) (by decide +kernel), List.mem_of_getElem? (i := 1323) (by decide +kernel)⟩
theorem lw_p65 : lw_okq (⟨"EachRoadOnceModel", "meetsAt", "(IIII)I"⟩, 37) := ⟨⟨by decide +kernel, by decide +kernel⟩, List.mem_of_getElem? (i := 853) (by decide +kernel), List.mem_of_getElem? (i := 1334) (by decide +kernel), List.mem_of_getElem? (i := 1335) (by decide +kernel)⟩
theorem lw_p66 : lw_okq (⟨"EachRoadOnceModel", "findMiles", "(I[I)V"⟩, 37) := ⟨⟨by decide +kernel, by decide +kernel⟩, List.mem_of_getElem? (i := 853) (by decide +kernel), List.mem_of_getElem? (i := 1342) (by decide +kernel), List.mem_of_getElem? (i := 1343) (by decide +kernel)⟩
theorem lw_p67 : lw_okq (⟨"EachRoadOnceModel", "draw", "(I)I"⟩, 37) := ⟨⟨by decide +kernel, by decide +kernel⟩, List.mem_of_getElem? (i := 853) (by decide +kernel), List.mem_of_getElem? (i := 1367) (by decide +kernel), List.mem_of_getElem? (i := 1368) (by decide +kernel)⟩
def lw_privs_5 : List (MethodName × Nat) := [(⟨"EachRoadOnceModel", "findWay", "(II)I"⟩, 37), (⟨"EachRoadOnceModel", "meetsAt", "(IIII)I"⟩, 37), (⟨"EachRoadOnceModel", "findMiles", "(I[I)V"⟩, 37), (⟨"EachRoadOnceModel", "draw", "(I)I"⟩, 37)]
theorem lw_r5 : ∀ q ∈ lw_privs_5, lw_okq q := List.forall_mem_cons.mpr ⟨lw_p64, List.forall_mem_cons.mpr ⟨lw_p65, List.forall_mem_cons.mpr ⟨lw_p66, List.forall_mem_cons.mpr ⟨lw_p67, fun _ h => absurd h List.not_mem_nil⟩⟩⟩⟩
def lw_privs : List (MethodName × Nat) := lw_privs_1 ++ (lw_privs_2 ++ (lw_privs_3 ++ (lw_privs_4 ++ (lw_privs_5))))
def lw_tbl : List Cond := k2_sels lw_privs ++ tables_1
theorem lw_privs_ok : ∀ q ∈ lw_privs, lw_okq q := by
  show ∀ q ∈ lw_privs_1 ++ (lw_privs_2 ++ (lw_privs_3 ++ (lw_privs_4 ++ (lw_privs_5)))), lw_okq q
  exact List.forall_mem_append.mpr ⟨lw_r1, List.forall_mem_append.mpr ⟨lw_r2, List.forall_mem_append.mpr ⟨lw_r3, List.forall_mem_append.mpr ⟨lw_r4, lw_r5⟩⟩⟩⟩
end
section
-- names of the program's classes and methods, as the claim prints them
def RX1 : String := "EachRoadOnce$Land"
def TX1 : u_T := fun k => match k with
  | 0 => ("EachRoadOnce$Land", "from", "[I", true)
  | 1 => ("EachRoadOnce$Land", "to", "[I", true)
  | 2 => ("EachRoadOnce$Land", "ends", "[I", true)
  | 3 => ("EachRoadOnce$Land", "miles", "[I", true)
  | 4 => ("EachRoadOnce$Land", "home", "[I", true)
  | 5 => ("EachRoadOnce$Land", "place", "[I", true)
  | 6 => ("EachRoadOnce$Land", "been", "[I", true)
  | 7 => ("EachRoadOnce$Land", "gone", "[I", true)
  | 8 => ("EachRoadOnce$Land", "when", "[I", true)
  | 9 => ("EachRoadOnce$Land", "roads", "I", false)
  | 10 => ("EachRoadOnce$Land", "people", "I", false)
  | 11 => ("EachRoadOnce$Land", "year", "I", false)
  | 12 => ("EachRoadOnce$Land", "anew", "I", false)
  | 13 => ("EachRoadOnce$Land", "seed", "I", false)
  | 14 => ("EachRoadOnce$Land", "shutRoads", "I", false)
  | 15 => ("EachRoadOnce$Land", "roundRoads", "I", false)
  | _ => ("EachRoadOnce$Land", "walked", "I", false)
def tyX1 : Nat → FieldType := fun k => match k with
  | 0 => .array .int
  | 1 => .array .int
  | 2 => .array .int
  | 3 => .array .int
  | 4 => .array .int
  | 5 => .array .int
  | 6 => .array .int
  | 7 => .array .int
  | 8 => .array .int
  | 9 => .int
  | 10 => .int
  | 11 => .int
  | 12 => .int
  | 13 => .int
  | 14 => .int
  | 15 => .int
  | _ => .int
abbrev wsX10 : List Cond := u_ws RX1 TX1 17
theorem nmX1 : ∀ a, a < 17 → ∀ b, b < 17 → a ≠ b → (TX1 a).2.1 ≠ (TX1 b).2.1 := by decide +kernel
theorem tyX1_ok : ∀ k, k < 17 → parseFieldDescriptor (TX1 k).2.2.1 = some (tyX1 k) := by decide +kernel
abbrev cX1_init : ByteArray := prog_3_method_1_code
def yX1_init : MethodName := ⟨RX1, "<init>", "()V"⟩
abbrev cX1_become : ByteArray := prog_3_method_2_code
def yX1_become : MethodName := ⟨RX1, "become", "(LEachRoadOnce$Land;)V"⟩
abbrev cX1_build : ByteArray := prog_3_method_3_code
def yX1_build : MethodName := ⟨RX1, "build", "(IIIZ)I"⟩
abbrev cX1_settle : ByteArray := prog_3_method_4_code
def yX1_settle : MethodName := ⟨RX1, "settle", "(I)I"⟩
abbrev cX1_put : ByteArray := prog_3_method_5_code
def yX1_put : MethodName := ⟨RX1, "put", "(II)V"⟩
abbrev cX1_lastYear : ByteArray := prog_3_method_6_code
def yX1_lastYear : MethodName := ⟨RX1, "lastYear", "(II)I"⟩
abbrev cX1_noteGone : ByteArray := prog_3_method_7_code
def yX1_noteGone : MethodName := ⟨RX1, "noteGone", "(II)V"⟩
abbrev cX1_goAlong : ByteArray := prog_3_method_8_code
def yX1_goAlong : MethodName := ⟨RX1, "goAlong", "(II)V"⟩
abbrev cX1_otherEnd : ByteArray := prog_3_method_9_code
def yX1_otherEnd : MethodName := ⟨RX1, "otherEnd", "(II)I"⟩
abbrev cX1_isFresh : ByteArray := prog_3_method_10_code
def yX1_isFresh : MethodName := ⟨RX1, "isFresh", "(II)Z"⟩
abbrev cX1_leftTo : ByteArray := prog_3_method_11_code
def yX1_leftTo : MethodName := ⟨RX1, "leftTo", "(I)I"⟩
abbrev cX1_onceLeftTo : ByteArray := prog_3_method_12_code
def yX1_onceLeftTo : MethodName := ⟨RX1, "onceLeftTo", "(I)I"⟩
abbrev cX1_roadsAt : ByteArray := prog_3_method_13_code
def yX1_roadsAt : MethodName := ⟨RX1, "roadsAt", "(II)I"⟩
abbrev cX1_leftHere : ByteArray := prog_3_method_14_code
def yX1_leftHere : MethodName := ⟨RX1, "leftHere", "(I)I"⟩
abbrev cX1_flood : ByteArray := prog_3_method_15_code
def yX1_flood : MethodName := ⟨RX1, "flood", "(II)I"⟩
abbrev cX1_reachOf : ByteArray := prog_3_method_16_code
def yX1_reachOf : MethodName := ⟨RX1, "reachOf", "(I)I"⟩
abbrev cX1_isSafe : ByteArray := prog_3_method_17_code
def yX1_isSafe : MethodName := ⟨RX1, "isSafe", "(I)Z"⟩
abbrev cX1_isSafeBehind : ByteArray := prog_3_method_18_code
def yX1_isSafeBehind : MethodName := ⟨RX1, "isSafeBehind", "(III)Z"⟩
abbrev cX1_goneInAll : ByteArray := prog_3_method_19_code
def yX1_goneInAll : MethodName := ⟨RX1, "goneInAll", "()I"⟩
abbrev cX1_drawn : ByteArray := prog_3_method_20_code
def yX1_drawn : MethodName := ⟨RX1, "drawn", "(I)I"⟩
def RX3 : String := "EachRoadOnce$Shelf"
def TX3 : u_T := fun k => match k with
  | 0 => ("EachRoadOnce$Shelf", "elements", "[J", true)
  | 1 => ("EachRoadOnce$Shelf", "size", "I", false)
  | 2 => ("EachRoadOnce$Shelf", "a", "I", false)
  | _ => ("EachRoadOnce$Shelf", "content", "I", false)
def tyX3 : Nat → FieldType := fun k => match k with
  | 0 => .array .long
  | 1 => .int
  | 2 => .int
  | _ => .int
abbrev wsX30 : List Cond := u_ws RX3 TX3 4
theorem nmX3 : ∀ a, a < 4 → ∀ b, b < 4 → a ≠ b → (TX3 a).2.1 ≠ (TX3 b).2.1 := by decide +kernel
theorem tyX3_ok : ∀ k, k < 4 → parseFieldDescriptor (TX3 k).2.2.1 = some (tyX3 k) := by decide +kernel
abbrev cX3_init : ByteArray := prog_5_method_1_code
def yX3_init : MethodName := ⟨RX3, "<init>", "()V"⟩
abbrev cX3_isEmpty : ByteArray := prog_5_method_2_code
def yX3_isEmpty : MethodName := ⟨RX3, "isEmpty", "()Z"⟩
abbrev cX3_isRow : ByteArray := prog_5_method_3_code
def yX3_isRow : MethodName := ⟨RX3, "isRow", "()Z"⟩
abbrev cX3_isRule : ByteArray := prog_5_method_4_code
def yX3_isRule : MethodName := ⟨RX3, "isRule", "()Z"⟩
abbrev cX3_kind : ByteArray := prog_5_method_5_code
def yX3_kind : MethodName := ⟨RX3, "kind", "()I"⟩
abbrev cX3_hasStretch : ByteArray := prog_5_method_6_code
def yX3_hasStretch : MethodName := ⟨RX3, "hasStretch", "(II)Z"⟩
abbrev cX3_becomeRow : ByteArray := prog_5_method_7_code
def yX3_becomeRow : MethodName := ⟨RX3, "becomeRow", "(II)V"⟩
abbrev cX3_becomeRule : ByteArray := prog_5_method_8_code
def yX3_becomeRule : MethodName := ⟨RX3, "becomeRule", "(II)V"⟩
abbrev cX3_put : ByteArray := prog_5_method_9_code
def yX3_put : MethodName := ⟨RX3, "put", "(IJ)V"⟩
def RX4 : String := "EachRoadOnce$Tape"
def TX4 : u_T := fun k => match k with
  | 0 => ("EachRoadOnce$Tape", "bytes", "[I", true)
  | 1 => ("EachRoadOnce$Tape", "size", "I", false)
  | 2 => ("EachRoadOnce$Tape", "fault", "I", false)
  | 3 => ("EachRoadOnce$Tape", "sort", "I", false)
  | 4 => ("EachRoadOnce$Tape", "start", "I", false)
  | _ => ("EachRoadOnce$Tape", "end", "I", false)
def tyX4 : Nat → FieldType := fun k => match k with
  | 0 => .array .int
  | 1 => .int
  | 2 => .int
  | 3 => .int
  | 4 => .int
  | _ => .int
abbrev wsX40 : List Cond := u_ws RX4 TX4 6
theorem nmX4 : ∀ a, a < 6 → ∀ b, b < 6 → a ≠ b → (TX4 a).2.1 ≠ (TX4 b).2.1 := by decide +kernel
theorem tyX4_ok : ∀ k, k < 6 → parseFieldDescriptor (TX4 k).2.2.1 = some (tyX4 k) := by decide +kernel
abbrev cX4_init : ByteArray := prog_6_method_1_code
def yX4_init : MethodName := ⟨RX4, "<init>", "()V"⟩
abbrev cX4_append : ByteArray := prog_6_method_2_code
def yX4_append : MethodName := ⟨RX4, "append", "(II)V"⟩
abbrev cX4_readOnto : ByteArray := prog_6_method_3_code
def yX4_readOnto : MethodName := ⟨RX4, "readOnto", "(LEachRoadOnce$Land;)I"⟩
abbrev cX4_readStatement : ByteArray := prog_6_method_4_code
def yX4_readStatement : MethodName := ⟨RX4, "readStatement", "(LEachRoadOnce$Land;)V"⟩
abbrev cX4_readRoad : ByteArray := prog_6_method_5_code
def yX4_readRoad : MethodName := ⟨RX4, "readRoad", "(LEachRoadOnce$Land;)V"⟩
abbrev cX4_readOne : ByteArray := prog_6_method_6_code
def yX4_readOne : MethodName := ⟨RX4, "readOne", "(LEachRoadOnce$Land;)V"⟩
abbrev cX4_readGone : ByteArray := prog_6_method_7_code
def yX4_readGone : MethodName := ⟨RX4, "readGone", "(LEachRoadOnce$Land;)V"⟩
abbrev cX4_readAt : ByteArray := prog_6_method_8_code
def yX4_readAt : MethodName := ⟨RX4, "readAt", "(LEachRoadOnce$Land;)V"⟩
abbrev cX4_readAnew : ByteArray := prog_6_method_9_code
def yX4_readAnew : MethodName := ⟨RX4, "readAnew", "(LEachRoadOnce$Land;)V"⟩
abbrev cX4_readShut : ByteArray := prog_6_method_10_code
def yX4_readShut : MethodName := ⟨RX4, "readShut", "(LEachRoadOnce$Land;)V"⟩
abbrev cX4_stopHere : ByteArray := prog_6_method_11_code
def yX4_stopHere : MethodName := ⟨RX4, "stopHere", "()V"⟩
abbrev cX4_takes : ByteArray := prog_6_method_12_code
def yX4_takes : MethodName := ⟨RX4, "takes", "(Ljava/lang/String;Z)Z"⟩
abbrev cX4_takeNumber : ByteArray := prog_6_method_13_code
def yX4_takeNumber : MethodName := ⟨RX4, "takeNumber", "(III)I"⟩
abbrev cX4_numberHere : ByteArray := prog_6_method_14_code
def yX4_numberHere : MethodName := ⟨RX4, "numberHere", "()I"⟩
abbrev cX4_advance : ByteArray := prog_6_method_15_code
def yX4_advance : MethodName := ⟨RX4, "advance", "()V"⟩
abbrev cX4_sortAt : ByteArray := prog_6_method_16_code
def yX4_sortAt : MethodName := ⟨RX4, "sortAt", "(I)I"⟩
def RX5 : String := "EachRoadOnce$Trails"
def TX5 : u_T := fun k => match k with
  | 0 => ("EachRoadOnce$Trails", "ends", "[I", true)
  | 1 => ("EachRoadOnce$Trails", "miles", "[I", true)
  | 2 => ("EachRoadOnce$Trails", "sums", "[I", true)
  | 3 => ("EachRoadOnce$Trails", "roadsAt", "[I", true)
  | 4 => ("EachRoadOnce$Trails", "count", "I", false)
  | 5 => ("EachRoadOnce$Trails", "start", "I", false)
  | _ => ("EachRoadOnce$Trails", "table", "[I", true)
def tyX5 : Nat → FieldType := fun k => match k with
  | 0 => .array .int
  | 1 => .array .int
  | 2 => .array .int
  | 3 => .array .int
  | 4 => .int
  | 5 => .int
  | _ => .array .int
abbrev wsX50 : List Cond := u_ws RX5 TX5 7
theorem nmX5 : ∀ a, a < 7 → ∀ b, b < 7 → a ≠ b → (TX5 a).2.1 ≠ (TX5 b).2.1 := by decide +kernel
theorem tyX5_ok : ∀ k, k < 7 → parseFieldDescriptor (TX5 k).2.2.1 = some (tyX5 k) := by decide +kernel
abbrev cX5_init : ByteArray := prog_7_method_1_code
def yX5_init : MethodName := ⟨RX5, "<init>", "()V"⟩
abbrev cX5_take : ByteArray := prog_7_method_2_code
def yX5_take : MethodName := ⟨RX5, "take", "(LEachRoadOnce$Land;I)V"⟩
abbrev cX5_spread : ByteArray := prog_7_method_3_code
def yX5_spread : MethodName := ⟨RX5, "spread", "(ILEachRoadOnce$Shelf;I)V"⟩
abbrev cX5_spreadFrom : ByteArray := prog_7_method_4_code
def yX5_spreadFrom : MethodName := ⟨RX5, "spreadFrom", "(ILEachRoadOnce$Shelf;I)V"⟩
abbrev cX5_metAt : ByteArray := prog_7_method_5_code
def yX5_metAt : MethodName := ⟨RX5, "metAt", "(IILEachRoadOnce$Shelf;I)I"⟩
abbrev cX5_longestBy : ByteArray := prog_7_method_6_code
def yX5_longestBy : MethodName := ⟨RX5, "longestBy", "(I)I"⟩
abbrev cX5_lengthOf : ByteArray := prog_7_method_7_code
def yX5_lengthOf : MethodName := ⟨RX5, "lengthOf", "(II)I"⟩
abbrev cX5_mostMet : ByteArray := prog_7_method_8_code
def yX5_mostMet : MethodName := ⟨RX5, "mostMet", "()I"⟩
def RX6 : String := "EachRoadOnce"
def TX6 : u_T := fun k => match k with
  | 0 => ("EachRoadOnce", "now", "LEachRoadOnce$Land;", true)
  | 1 => ("EachRoadOnce", "kept", "LEachRoadOnce$Land;", true)
  | 2 => ("EachRoadOnce", "trial", "LEachRoadOnce$Land;", true)
  | 3 => ("EachRoadOnce", "tape", "LEachRoadOnce$Tape;", true)
  | 4 => ("EachRoadOnce", "shelves", "[LEachRoadOnce$Shelf;", true)
  | 5 => ("EachRoadOnce", "trails", "LEachRoadOnce$Trails;", true)
  | 6 => ("EachRoadOnce", "milesOfOne", "[I", true)
  | 7 => ("EachRoadOnce", "milesOfOther", "[I", true)
  | 8 => ("EachRoadOnce", "refusals", "[I", true)
  | _ => ("EachRoadOnce", "hasKept", "Z", false)
def tyX6 : Nat → FieldType := fun k => match k with
  | 0 => .object "EachRoadOnce$Land"
  | 1 => .object "EachRoadOnce$Land"
  | 2 => .object "EachRoadOnce$Land"
  | 3 => .object "EachRoadOnce$Tape"
  | 4 => .array (.object "EachRoadOnce$Shelf")
  | 5 => .object "EachRoadOnce$Trails"
  | 6 => .array .int
  | 7 => .array .int
  | 8 => .array .int
  | _ => .boolean
abbrev wsX60 : List Cond := u_ws RX6 TX6 10
theorem nmX6 : ∀ a, a < 10 → ∀ b, b < 10 → a ≠ b → (TX6 a).2.1 ≠ (TX6 b).2.1 := by decide +kernel
theorem tyX6_ok : ∀ k, k < 10 → parseFieldDescriptor (TX6 k).2.2.1 = some (tyX6 k) := by decide +kernel
abbrev cX6_init : ByteArray := prog_1_method_1_code
def yX6_init : MethodName := ⟨RX6, "<init>", "()V"⟩
abbrev cX6_row : ByteArray := prog_1_method_2_code
def yX6_row : MethodName := ⟨RX6, "row", "(III)I"⟩
abbrev cX6_set : ByteArray := prog_1_method_3_code
def yX6_set : MethodName := ⟨RX6, "set", "(IIJ)I"⟩
abbrev cX6_copy : ByteArray := prog_1_method_4_code
def yX6_copy : MethodName := ⟨RX6, "copy", "(IIIII)I"⟩
abbrev cX6_element : ByteArray := prog_1_method_5_code
def yX6_element : MethodName := ⟨RX6, "element", "(II)J"⟩
abbrev cX6_holds : ByteArray := prog_1_method_6_code
def yX6_holds : MethodName := ⟨RX6, "holds", "(I)I"⟩
abbrev cX6_rule : ByteArray := prog_1_method_7_code
def yX6_rule : MethodName := ⟨RX6, "rule", "(III)I"⟩
abbrev cX6_says : ByteArray := prog_1_method_8_code
def yX6_says : MethodName := ⟨RX6, "says", "(II)I"⟩
abbrev cX6_road : ByteArray := prog_1_method_9_code
def yX6_road : MethodName := ⟨RX6, "road", "(IIIZ)I"⟩
abbrev cX6_one : ByteArray := prog_1_method_10_code
def yX6_one : MethodName := ⟨RX6, "one", "(I)I"⟩
abbrev cX6_shut : ByteArray := prog_1_method_11_code
def yX6_shut : MethodName := ⟨RX6, "shut", "(IZ)I"⟩
abbrev cX6_anew : ByteArray := prog_1_method_12_code
def yX6_anew : MethodName := ⟨RX6, "anew", "(I)I"⟩
abbrev cX6_feed : ByteArray := prog_1_method_13_code
def yX6_feed : MethodName := ⟨RX6, "feed", "(II)I"⟩
abbrev cX6_wipe : ByteArray := prog_1_method_14_code
def yX6_wipe : MethodName := ⟨RX6, "wipe", "()I"⟩
abbrev cX6_land : ByteArray := prog_1_method_15_code
def yX6_land : MethodName := ⟨RX6, "land", "()I"⟩
abbrev cX6_roadOf : ByteArray := prog_1_method_16_code
def yX6_roadOf : MethodName := ⟨RX6, "roadOf", "(II)I"⟩
abbrev cX6_oneOf : ByteArray := prog_1_method_17_code
def yX6_oneOf : MethodName := ⟨RX6, "oneOf", "(II)I"⟩
abbrev cX6_when : ByteArray := prog_1_method_18_code
def yX6_when : MethodName := ⟨RX6, "when", "(II)I"⟩
abbrev cX6_left : ByteArray := prog_1_method_19_code
def yX6_left : MethodName := ⟨RX6, "left", "(I)I"⟩
abbrev cX6_here : ByteArray := prog_1_method_20_code
def yX6_here : MethodName := ⟨RX6, "here", "(I)I"⟩
abbrev cX6_reach : ByteArray := prog_1_method_21_code
def yX6_reach : MethodName := ⟨RX6, "reach", "(I)I"⟩
abbrev cX6_safe : ByteArray := prog_1_method_22_code
def yX6_safe : MethodName := ⟨RX6, "safe", "(I)I"⟩
abbrev cX6_go : ByteArray := prog_1_method_23_code
def yX6_go : MethodName := ⟨RX6, "go", "(II)I"⟩
abbrev cX6_year : ByteArray := prog_1_method_24_code
def yX6_year : MethodName := ⟨RX6, "year", "()I"⟩
abbrev cX6_next : ByteArray := prog_1_method_25_code
def yX6_next : MethodName := ⟨RX6, "next", "(II)I"⟩
abbrev cX6_run : ByteArray := prog_1_method_26_code
def yX6_run : MethodName := ⟨RX6, "run", "(IIII)I"⟩
abbrev cX6_head : ByteArray := prog_1_method_27_code
def yX6_head : MethodName := ⟨RX6, "head", "(I)I"⟩
abbrev cX6_lives : ByteArray := prog_1_method_28_code
def yX6_lives : MethodName := ⟨RX6, "lives", "(III)I"⟩
abbrev cX6_judge : ByteArray := prog_1_method_29_code
def yX6_judge : MethodName := ⟨RX6, "judge", "(III)I"⟩
abbrev cX6_told : ByteArray := prog_1_method_30_code
def yX6_told : MethodName := ⟨RX6, "told", "(IIII)I"⟩
abbrev cX6_law : ByteArray := prog_1_method_31_code
def yX6_law : MethodName := ⟨RX6, "law", "(II)I"⟩
abbrev cX6_all : ByteArray := prog_1_method_32_code
def yX6_all : MethodName := ⟨RX6, "all", "(I)I"⟩
abbrev cX6_way : ByteArray := prog_1_method_33_code
def yX6_way : MethodName := ⟨RX6, "way", "(II)I"⟩
abbrev cX6_lacks : ByteArray := prog_1_method_34_code
def yX6_lacks : MethodName := ⟨RX6, "lacks", "(I)I"⟩
abbrev cX6_longest : ByteArray := prog_1_method_35_code
def yX6_longest : MethodName := ⟨RX6, "longest", "(II)I"⟩
abbrev cX6_errands : ByteArray := prog_1_method_36_code
def yX6_errands : MethodName := ⟨RX6, "errands", "(III)I"⟩
abbrev cX6_cut : ByteArray := prog_1_method_37_code
def yX6_cut : MethodName := ⟨RX6, "cut", "(III)I"⟩
abbrev cX6_meets : ByteArray := prog_1_method_38_code
def yX6_meets : MethodName := ⟨RX6, "meets", "(III)I"⟩
abbrev cX6_near : ByteArray := prog_1_method_39_code
def yX6_near : MethodName := ⟨RX6, "near", "(II)I"⟩
abbrev cX6_together : ByteArray := prog_1_method_40_code
def yX6_together : MethodName := ⟨RX6, "together", "(III)I"⟩
abbrev cX6_frees : ByteArray := prog_1_method_41_code
def yX6_frees : MethodName := ⟨RX6, "frees", "(I)I"⟩
abbrev cX6_send : ByteArray := prog_1_method_42_code
def yX6_send : MethodName := ⟨RX6, "send", "(II)I"⟩
abbrev cX6_fast : ByteArray := prog_1_method_43_code
def yX6_fast : MethodName := ⟨RX6, "fast", "(Z)I"⟩
abbrev cX6_wander : ByteArray := prog_1_method_44_code
def yX6_wander : MethodName := ⟨RX6, "wander", "(II)I"⟩
abbrev cX6_seed : ByteArray := prog_1_method_45_code
def yX6_seed : MethodName := ⟨RX6, "seed", "(I)I"⟩
abbrev cX6_image : ByteArray := prog_1_method_46_code
def yX6_image : MethodName := ⟨RX6, "image", "()I"⟩
abbrev cX6_back : ByteArray := prog_1_method_47_code
def yX6_back : MethodName := ⟨RX6, "back", "()I"⟩
abbrev cX6_status : ByteArray := prog_1_method_48_code
def yX6_status : MethodName := ⟨RX6, "status", "(I)I"⟩
abbrev cX6_refuse : ByteArray := prog_1_method_49_code
def yX6_refuse : MethodName := ⟨RX6, "refuse", "(I)I"⟩
abbrev cX6_isBetween : ByteArray := prog_1_method_50_code
def yX6_isBetween : MethodName := ⟨RX6, "isBetween", "(III)Z"⟩
abbrev cX6_has : ByteArray := prog_1_method_51_code
def yX6_has : MethodName := ⟨RX6, "has", "(II)Z"⟩
abbrev cX6_isShelf : ByteArray := prog_1_method_52_code
def yX6_isShelf : MethodName := ⟨RX6, "isShelf", "(I)Z"⟩
abbrev cX6_isPlace : ByteArray := prog_1_method_53_code
def yX6_isPlace : MethodName := ⟨RX6, "isPlace", "(I)Z"⟩
abbrev cX6_isRoad : ByteArray := prog_1_method_54_code
def yX6_isRoad : MethodName := ⟨RX6, "isRoad", "(I)Z"⟩
abbrev cX6_isOne : ByteArray := prog_1_method_55_code
def yX6_isOne : MethodName := ⟨RX6, "isOne", "(I)Z"⟩
abbrev cX6_rowTrouble : ByteArray := prog_1_method_56_code
def yX6_rowTrouble : MethodName := ⟨RX6, "rowTrouble", "(I)I"⟩
abbrev cX6_ruleTrouble : ByteArray := prog_1_method_57_code
def yX6_ruleTrouble : MethodName := ⟨RX6, "ruleTrouble", "(I)I"⟩
abbrev cX6_stretchTrouble : ByteArray := prog_1_method_58_code
def yX6_stretchTrouble : MethodName := ⟨RX6, "stretchTrouble", "(II)I"⟩
abbrev cX6_copyTrouble : ByteArray := prog_1_method_59_code
def yX6_copyTrouble : MethodName := ⟨RX6, "copyTrouble", "(LEachRoadOnce$Shelf;LEachRoadOnce$Shelf;)I"⟩
abbrev cX6_firstNotGone : ByteArray := prog_1_method_60_code
def yX6_firstNotGone : MethodName := ⟨RX6, "firstNotGone", "(ILEachRoadOnce$Shelf;I)I"⟩
abbrev cX6_meetingPlace : ByteArray := prog_1_method_61_code
def yX6_meetingPlace : MethodName := ⟨RX6, "meetingPlace", "(II)I"⟩
abbrev cX6_filledShelves : ByteArray := prog_1_method_62_code
def yX6_filledShelves : MethodName := ⟨RX6, "filledShelves", "()I"⟩
def RX7 : String := "EachRoadOnceModel"
def TX7 : u_T := fun k => match k with
  | 0 => ("EachRoadOnceModel", "shelf", "[I", true)
  | 1 => ("EachRoadOnceModel", "rowSort", "[I", true)
  | 2 => ("EachRoadOnceModel", "rowSize", "[I", true)
  | 3 => ("EachRoadOnceModel", "rows", "[[J", true)
  | 4 => ("EachRoadOnceModel", "moved", "[J", true)
  | 5 => ("EachRoadOnceModel", "ruleKind", "[I", true)
  | 6 => ("EachRoadOnceModel", "ruleBy", "[I", true)
  | 7 => ("EachRoadOnceModel", "tape", "[I", true)
  | 8 => ("EachRoadOnceModel", "tapeSize", "I", false)
  | 9 => ("EachRoadOnceModel", "refused", "[I", true)
  | 10 => ("EachRoadOnceModel", "roads", "I", false)
  | 11 => ("EachRoadOnceModel", "road", "[[I", true)
  | 12 => ("EachRoadOnceModel", "people", "I", false)
  | 13 => ("EachRoadOnceModel", "one", "[[I", true)
  | 14 => ("EachRoadOnceModel", "last", "[[I", true)
  | 15 => ("EachRoadOnceModel", "year", "I", false)
  | 16 => ("EachRoadOnceModel", "anew", "I", false)
  | 17 => ("EachRoadOnceModel", "seed", "I", false)
  | 18 => ("EachRoadOnceModel", "kept", "LEachRoadOnceModel;", false)
  | 19 => ("EachRoadOnceModel", "tried", "LEachRoadOnceModel;", false)
  | 20 => ("EachRoadOnceModel", "at", "I", false)
  | 21 => ("EachRoadOnceModel", "token", "I", false)
  | 22 => ("EachRoadOnceModel", "from", "I", false)
  | 23 => ("EachRoadOnceModel", "figures", "J", false)
  | 24 => ("EachRoadOnceModel", "fault", "I", false)
  | 25 => ("EachRoadOnceModel", "told", "[I", true)
  | 26 => ("EachRoadOnceModel", "statements", "I", false)
  | 27 => ("EachRoadOnceModel", "runMiles", "I", false)
  | 28 => ("EachRoadOnceModel", "toldBeen", "I", false)
  | 29 => ("EachRoadOnceModel", "these", "[I", true)
  | 30 => ("EachRoadOnceModel", "ends", "[I", true)
  | 31 => ("EachRoadOnceModel", "flow", "[I", true)
  | 32 => ("EachRoadOnceModel", "came", "[I", true)
  | 33 => ("EachRoadOnceModel", "cutSet", "I", false)
  | 34 => ("EachRoadOnceModel", "met", "[[I", true)
  | 35 => ("EachRoadOnceModel", "miles", "[I", true)
  | _ => ("EachRoadOnceModel", "others", "[I", true)
def tyX7 : Nat → FieldType := fun k => match k with
  | 0 => .array .int
  | 1 => .array .int
  | 2 => .array .int
  | 3 => .array (.array .long)
  | 4 => .array .long
  | 5 => .array .int
  | 6 => .array .int
  | 7 => .array .int
  | 8 => .int
  | 9 => .array .int
  | 10 => .int
  | 11 => .array (.array .int)
  | 12 => .int
  | 13 => .array (.array .int)
  | 14 => .array (.array .int)
  | 15 => .int
  | 16 => .int
  | 17 => .int
  | 18 => .object "EachRoadOnceModel"
  | 19 => .object "EachRoadOnceModel"
  | 20 => .int
  | 21 => .int
  | 22 => .int
  | 23 => .long
  | 24 => .int
  | 25 => .array .int
  | 26 => .int
  | 27 => .int
  | 28 => .int
  | 29 => .array .int
  | 30 => .array .int
  | 31 => .array .int
  | 32 => .array .int
  | 33 => .int
  | 34 => .array (.array .int)
  | 35 => .array .int
  | _ => .array .int
abbrev wsX70 : List Cond := u_ws RX7 TX7 37
theorem nmX7 : ∀ a, a < 37 → ∀ b, b < 37 → a ≠ b → (TX7 a).2.1 ≠ (TX7 b).2.1 := by decide +kernel
theorem tyX7_ok : ∀ k, k < 37 → parseFieldDescriptor (TX7 k).2.2.1 = some (tyX7 k) := by decide +kernel
abbrev cX7_init : ByteArray := prog_9_method_1_code
def yX7_init : MethodName := ⟨RX7, "<init>", "()V"⟩
abbrev cX7_refuse : ByteArray := prog_9_method_2_code
def yX7_refuse : MethodName := ⟨RX7, "refuse", "(I)I"⟩
abbrev cX7_in : ByteArray := prog_9_method_3_code
def yX7_in : MethodName := ⟨RX7, "in", "(JJJ)Z"⟩
abbrev cX7_isRoad : ByteArray := prog_9_method_4_code
def yX7_isRoad : MethodName := ⟨RX7, "isRoad", "(J)Z"⟩
abbrev cX7_isOne : ByteArray := prog_9_method_5_code
def yX7_isOne : MethodName := ⟨RX7, "isOne", "(I)Z"⟩
abbrev cX7_isPlace : ByteArray := prog_9_method_6_code
def yX7_isPlace : MethodName := ⟨RX7, "isPlace", "(J)Z"⟩
abbrev cX7_bits : ByteArray := prog_9_method_7_code
def yX7_bits : MethodName := ⟨RX7, "bits", "(I)I"⟩
abbrev cX7_row : ByteArray := prog_9_method_8_code
def yX7_row : MethodName := ⟨RX7, "row", "(III)I"⟩
abbrev cX7_fit : ByteArray := prog_9_method_9_code
def yX7_fit : MethodName := ⟨RX7, "fit", "(IJ)J"⟩
abbrev cX7_noRow : ByteArray := prog_9_method_10_code
def yX7_noRow : MethodName := ⟨RX7, "noRow", "(I)I"⟩
abbrev cX7_noRule : ByteArray := prog_9_method_11_code
def yX7_noRule : MethodName := ⟨RX7, "noRule", "(I)I"⟩
abbrev cX7_set : ByteArray := prog_9_method_12_code
def yX7_set : MethodName := ⟨RX7, "set", "(IIJ)I"⟩
abbrev cX7_copy : ByteArray := prog_9_method_13_code
def yX7_copy : MethodName := ⟨RX7, "copy", "(IIIII)I"⟩
abbrev cX7_element : ByteArray := prog_9_method_14_code
def yX7_element : MethodName := ⟨RX7, "element", "(II)J"⟩
abbrev cX7_holds : ByteArray := prog_9_method_15_code
def yX7_holds : MethodName := ⟨RX7, "holds", "(I)I"⟩
abbrev cX7_rule : ByteArray := prog_9_method_16_code
def yX7_rule : MethodName := ⟨RX7, "rule", "(III)I"⟩
abbrev cX7_isUnder : ByteArray := prog_9_method_17_code
def yX7_isUnder : MethodName := ⟨RX7, "isUnder", "(II)Z"⟩
abbrev cX7_says : ByteArray := prog_9_method_18_code
def yX7_says : MethodName := ⟨RX7, "says", "(II)I"⟩
abbrev cX7_road : ByteArray := prog_9_method_19_code
def yX7_road : MethodName := ⟨RX7, "road", "(IIIZ)I"⟩
abbrev cX7_newRoad : ByteArray := prog_9_method_20_code
def yX7_newRoad : MethodName := ⟨RX7, "newRoad", "()V"⟩
abbrev cX7_newOne : ByteArray := prog_9_method_21_code
def yX7_newOne : MethodName := ⟨RX7, "newOne", "(I)V"⟩
abbrev cX7_one : ByteArray := prog_9_method_22_code
def yX7_one : MethodName := ⟨RX7, "one", "(I)I"⟩
abbrev cX7_shut : ByteArray := prog_9_method_23_code
def yX7_shut : MethodName := ⟨RX7, "shut", "(IZ)I"⟩
abbrev cX7_anew : ByteArray := prog_9_method_24_code
def yX7_anew : MethodName := ⟨RX7, "anew", "(I)I"⟩
abbrev cX7_feed : ByteArray := prog_9_method_25_code
def yX7_feed : MethodName := ⟨RX7, "feed", "(II)I"⟩
abbrev cX7_wipe : ByteArray := prog_9_method_26_code
def yX7_wipe : MethodName := ⟨RX7, "wipe", "()I"⟩
abbrev cX7_isLetter : ByteArray := prog_9_method_27_code
def yX7_isLetter : MethodName := ⟨RX7, "isLetter", "(I)Z"⟩
abbrev cX7_isDigit : ByteArray := prog_9_method_28_code
def yX7_isDigit : MethodName := ⟨RX7, "isDigit", "(I)Z"⟩
abbrev cX7_look : ByteArray := prog_9_method_29_code
def yX7_look : MethodName := ⟨RX7, "look", "()V"⟩
abbrev cX7_wrong : ByteArray := prog_9_method_30_code
def yX7_wrong : MethodName := ⟨RX7, "wrong", "()Z"⟩
abbrev cX7_isWord : ByteArray := prog_9_method_31_code
def yX7_isWord : MethodName := ⟨RX7, "isWord", "(Ljava/lang/String;)Z"⟩
abbrev cX7_number : ByteArray := prog_9_method_32_code
def yX7_number : MethodName := ⟨RX7, "number", "(III)Z"⟩
abbrev cX7_tells : ByteArray := prog_9_method_33_code
def yX7_tells : MethodName := ⟨RX7, "tells", "(Ljava/lang/String;III)Z"⟩
abbrev cX7_roadTold : ByteArray := prog_9_method_34_code
def yX7_roadTold : MethodName := ⟨RX7, "roadTold", "()Z"⟩
abbrev cX7_statement : ByteArray := prog_9_method_35_code
def yX7_statement : MethodName := ⟨RX7, "statement", "()Z"⟩
abbrev cX7_readAll : ByteArray := prog_9_method_36_code
def yX7_readAll : MethodName := ⟨RX7, "readAll", "()Z"⟩
abbrev cX7_land : ByteArray := prog_9_method_37_code
def yX7_land : MethodName := ⟨RX7, "land", "()I"⟩
abbrev cX7_roadOf : ByteArray := prog_9_method_38_code
def yX7_roadOf : MethodName := ⟨RX7, "roadOf", "(II)I"⟩
abbrev cX7_oneOf : ByteArray := prog_9_method_39_code
def yX7_oneOf : MethodName := ⟨RX7, "oneOf", "(II)I"⟩
abbrev cX7_when : ByteArray := prog_9_method_40_code
def yX7_when : MethodName := ⟨RX7, "when", "(II)I"⟩
abbrev cX7_isLeft : ByteArray := prog_9_method_41_code
def yX7_isLeft : MethodName := ⟨RX7, "isLeft", "(II)Z"⟩
abbrev cX7_leftTo : ByteArray := prog_9_method_42_code
def yX7_leftTo : MethodName := ⟨RX7, "leftTo", "(I)I"⟩
abbrev cX7_isAt : ByteArray := prog_9_method_43_code
def yX7_isAt : MethodName := ⟨RX7, "isAt", "(II)Z"⟩
abbrev cX7_otherOf : ByteArray := prog_9_method_44_code
def yX7_otherOf : MethodName := ⟨RX7, "otherOf", "(II)I"⟩
abbrev cX7_hereOf : ByteArray := prog_9_method_45_code
def yX7_hereOf : MethodName := ⟨RX7, "hereOf", "(I)I"⟩
abbrev cX7_reachBy : ByteArray := prog_9_method_46_code
def yX7_reachBy : MethodName := ⟨RX7, "reachBy", "(II)I"⟩
abbrev cX7_isSafe : ByteArray := prog_9_method_47_code
def yX7_isSafe : MethodName := ⟨RX7, "isSafe", "(I)Z"⟩
abbrev cX7_left : ByteArray := prog_9_method_48_code
def yX7_left : MethodName := ⟨RX7, "left", "(I)I"⟩
abbrev cX7_here : ByteArray := prog_9_method_49_code
def yX7_here : MethodName := ⟨RX7, "here", "(I)I"⟩
abbrev cX7_reach : ByteArray := prog_9_method_50_code
def yX7_reach : MethodName := ⟨RX7, "reach", "(I)I"⟩
abbrev cX7_safe : ByteArray := prog_9_method_51_code
def yX7_safe : MethodName := ⟨RX7, "safe", "(I)I"⟩
abbrev cX7_goes : ByteArray := prog_9_method_52_code
def yX7_goes : MethodName := ⟨RX7, "goes", "(II)V"⟩
abbrev cX7_go : ByteArray := prog_9_method_53_code
def yX7_go : MethodName := ⟨RX7, "go", "(II)I"⟩
abbrev cX7_year : ByteArray := prog_9_method_54_code
def yX7_year : MethodName := ⟨RX7, "year", "()I"⟩
abbrev cX7_byMiles : ByteArray := prog_9_method_55_code
def yX7_byMiles : MethodName := ⟨RX7, "byMiles", "(IZ)I"⟩
abbrev cX7_isSafeBehind : ByteArray := prog_9_method_56_code
def yX7_isSafeBehind : MethodName := ⟨RX7, "isSafeBehind", "(II)Z"⟩
abbrev cX7_nextBy : ByteArray := prog_9_method_57_code
def yX7_nextBy : MethodName := ⟨RX7, "nextBy", "(IIII)I"⟩
abbrev cX7_lowest : ByteArray := prog_9_method_58_code
def yX7_lowest : MethodName := ⟨RX7, "lowest", "(I)I"⟩
abbrev cX7_next : ByteArray := prog_9_method_59_code
def yX7_next : MethodName := ⟨RX7, "next", "(II)I"⟩
abbrev cX7_fresh : ByteArray := prog_9_method_60_code
def yX7_fresh : MethodName := ⟨RX7, "fresh", "()LEachRoadOnceModel;"⟩
abbrev cX7_runs : ByteArray := prog_9_method_61_code
def yX7_runs : MethodName := ⟨RX7, "runs", "(IIII)I"⟩
abbrev cX7_run : ByteArray := prog_9_method_62_code
def yX7_run : MethodName := ⟨RX7, "run", "(IIII)I"⟩
abbrev cX7_head : ByteArray := prog_9_method_63_code
def yX7_head : MethodName := ⟨RX7, "head", "(I)I"⟩
abbrev cX7_lives : ByteArray := prog_9_method_64_code
def yX7_lives : MethodName := ⟨RX7, "lives", "(III)I"⟩
abbrev cX7_noTold : ByteArray := prog_9_method_65_code
def yX7_noTold : MethodName := ⟨RX7, "noTold", "(IIII)I"⟩
abbrev cX7_goThrough : ByteArray := prog_9_method_66_code
def yX7_goThrough : MethodName := ⟨RX7, "goThrough", "(III)I"⟩
abbrev cX7_judge : ByteArray := prog_9_method_67_code
def yX7_judge : MethodName := ⟨RX7, "judge", "(III)I"⟩
abbrev cX7_told : ByteArray := prog_9_method_68_code
def yX7_told : MethodName := ⟨RX7, "told", "(IIII)I"⟩
abbrev cX7_theseOf : ByteArray := prog_9_method_69_code
def yX7_theseOf : MethodName := ⟨RX7, "theseOf", "(I)I"⟩
abbrev cX7_oddOf : ByteArray := prog_9_method_70_code
def yX7_oddOf : MethodName := ⟨RX7, "oddOf", "(I)I"⟩
abbrev cX7_endsOf : ByteArray := prog_9_method_71_code
def yX7_endsOf : MethodName := ⟨RX7, "endsOf", "(I)I"⟩
abbrev cX7_law : ByteArray := prog_9_method_72_code
def yX7_law : MethodName := ⟨RX7, "law", "(II)I"⟩
abbrev cX7_inOne : ByteArray := prog_9_method_73_code
def yX7_inOne : MethodName := ⟨RX7, "inOne", "(II)I"⟩
abbrev cX7_all : ByteArray := prog_9_method_74_code
def yX7_all : MethodName := ⟨RX7, "all", "(I)I"⟩
abbrev cX7_way : ByteArray := prog_9_method_75_code
def yX7_way : MethodName := ⟨RX7, "way", "(II)I"⟩
abbrev cX7_goesOn : ByteArray := prog_9_method_76_code
def yX7_goesOn : MethodName := ⟨RX7, "goesOn", "(III)Z"⟩
abbrev cX7_lacks : ByteArray := prog_9_method_77_code
def yX7_lacks : MethodName := ⟨RX7, "lacks", "(I)I"⟩
abbrev cX7_listOf : ByteArray := prog_9_method_78_code
def yX7_listOf : MethodName := ⟨RX7, "listOf", "(I)I"⟩
abbrev cX7_longest : ByteArray := prog_9_method_79_code
def yX7_longest : MethodName := ⟨RX7, "longest", "(II)I"⟩
abbrev cX7_findWay : ByteArray := prog_9_method_80_code
def yX7_findWay : MethodName := ⟨RX7, "findWay", "(II)I"⟩
abbrev cX7_findFlow : ByteArray := prog_9_method_81_code
def yX7_findFlow : MethodName := ⟨RX7, "findFlow", "(III)I"⟩
abbrev cX7_areTwo : ByteArray := prog_9_method_82_code
def yX7_areTwo : MethodName := ⟨RX7, "areTwo", "(III)Z"⟩
abbrev cX7_errands : ByteArray := prog_9_method_83_code
def yX7_errands : MethodName := ⟨RX7, "errands", "(III)I"⟩
abbrev cX7_cut : ByteArray := prog_9_method_84_code
def yX7_cut : MethodName := ⟨RX7, "cut", "(III)I"⟩
abbrev cX7_meetsAt : ByteArray := prog_9_method_85_code
def yX7_meetsAt : MethodName := ⟨RX7, "meetsAt", "(IIII)I"⟩
abbrev cX7_meets : ByteArray := prog_9_method_86_code
def yX7_meets : MethodName := ⟨RX7, "meets", "(III)I"⟩
abbrev cX7_findMiles : ByteArray := prog_9_method_87_code
def yX7_findMiles : MethodName := ⟨RX7, "findMiles", "(I[I)V"⟩
abbrev cX7_near : ByteArray := prog_9_method_88_code
def yX7_near : MethodName := ⟨RX7, "near", "(II)I"⟩
abbrev cX7_together : ByteArray := prog_9_method_89_code
def yX7_together : MethodName := ⟨RX7, "together", "(III)I"⟩
abbrev cX7_frees : ByteArray := prog_9_method_90_code
def yX7_frees : MethodName := ⟨RX7, "frees", "(I)I"⟩
abbrev cX7_send : ByteArray := prog_9_method_91_code
def yX7_send : MethodName := ⟨RX7, "send", "(II)I"⟩
abbrev cX7_fast : ByteArray := prog_9_method_92_code
def yX7_fast : MethodName := ⟨RX7, "fast", "(Z)I"⟩
abbrev cX7_draw : ByteArray := prog_9_method_93_code
def yX7_draw : MethodName := ⟨RX7, "draw", "(I)I"⟩
abbrev cX7_wander : ByteArray := prog_9_method_94_code
def yX7_wander : MethodName := ⟨RX7, "wander", "(II)I"⟩
abbrev cX7_seed : ByteArray := prog_9_method_95_code
def yX7_seed : MethodName := ⟨RX7, "seed", "(I)I"⟩
abbrev cX7_overAll : ByteArray := prog_9_method_96_code
def yX7_overAll : MethodName := ⟨RX7, "overAll", "([[I[[I)V"⟩
abbrev cX7_takeFrom : ByteArray := prog_9_method_97_code
def yX7_takeFrom : MethodName := ⟨RX7, "takeFrom", "(LEachRoadOnceModel;)V"⟩
abbrev cX7_image : ByteArray := prog_9_method_98_code
def yX7_image : MethodName := ⟨RX7, "image", "()I"⟩
abbrev cX7_back : ByteArray := prog_9_method_99_code
def yX7_back : MethodName := ⟨RX7, "back", "()I"⟩
abbrev cX7_status : ByteArray := prog_9_method_100_code
def yX7_status : MethodName := ⟨RX7, "status", "(I)I"⟩
def RJ6 : String := "java/lang/Integer"
abbrev cJ6_bitCount_0f7a4 : ByteArray := prog_10_method_49_code
def yJ6_bitCount_0f7a4 : MethodName := ⟨RJ6, "bitCount", "(I)I"⟩
def RJ10 : String := "java/lang/System"
def RJ7 : String := "java/util/Arrays"
abbrev cJ7_rangeCheck_23922 : ByteArray := prog_16_method_30_code
def yJ7_rangeCheck_23922 : MethodName := ⟨RJ7, "rangeCheck", "(III)V"⟩
abbrev cJ7_fill_d0a16 : ByteArray := prog_16_method_101_code
def yJ7_fill_d0a16 : MethodName := ⟨RJ7, "fill", "([JJ)V"⟩
abbrev cJ7_fill_53178 : ByteArray := prog_16_method_103_code
def yJ7_fill_53178 : MethodName := ⟨RJ7, "fill", "([II)V"⟩
abbrev cJ7_fill_fda19 : ByteArray := prog_16_method_104_code
def yJ7_fill_fda19 : MethodName := ⟨RJ7, "fill", "([IIII)V"⟩
end
section
-- general rows: one list of words for every method, one way to begin, to call and to end a contract
/-- the words that stay over a call -/
def gx_T : List Cond := lw_tbl.filter goodWord
theorem gx_in {w : Cond} (h : w ∈ lw_tbl) (hg : goodWord w = true) : w ∈ gx_T := List.mem_filter.mpr ⟨h, hg⟩
theorem gx_good : GoodIn gx_T gx_T := fun w h => ⟨h, good_of_word (List.mem_filter.mp h).2⟩
theorem gx_gcons {w : Cond} {ws : List Cond} (h : w ∈ gx_T) (hs : GoodIn gx_T ws) : GoodIn gx_T (w :: ws) := fun v hv => (List.mem_cons.mp hv).elim (fun e => by subst e; exact gx_good _ h) (fun hh => hs v hh)
theorem gx_gV {own C : String} {i : Nat} {y : MethodName} {bytes : ByteArray} {n : Nat} {r : Option FieldType} (h1 : Cond.methodLink own i y ∈ gx_T) (h2 : Cond.instanceMethod y ∈ gx_T) (h3 : Cond.selects C y y ∈ gx_T) (h4 : Cond.initialized C ∈ gx_T) (h5 : Cond.code y bytes n r ∈ gx_T) : GoodIn gx_T (wsV own i C y (.code y bytes n r :: gx_T)) :=
  gx_gcons h1 (gx_gcons h2 (gx_gcons h3 (gx_gcons h4 (gx_gcons h5 gx_good))))
theorem gx_gS {own : String} {i : Nat} {y : MethodName} {bytes : ByteArray} {n : Nat} {r : Option FieldType} (h1 : Cond.methodLink own i y ∈ gx_T) (h2 : Cond.static y ∈ gx_T) (h4 : Cond.initialized y.cls ∈ gx_T) (h5 : Cond.code y bytes n r ∈ gx_T) : GoodIn gx_T (va_wsS own i y (.code y bytes n r :: gx_T)) :=
  gx_gcons h1 (gx_gcons h2 (gx_gcons h4 (gx_gcons h5 gx_good)))
theorem gx_gI {y : MethodName} {bytes : ByteArray} {n : Nat} {r : Option FieldType} (h5 : Cond.code y bytes n r ∈ gx_T) : GoodIn gx_T (.code y bytes n r :: gx_T) := gx_gcons h5 gx_good
abbrev gx_cl : List vw_C := [(RX1, TX1, 17), (RX3, TX3, 4), (RX4, TX4, 6), (RX5, TX5, 7), (RX6, TX6, 10), (RX7, TX7, 37)]
abbrev gx_ty (k : Nat → ClassId) : List (ClassId × FieldType) := [(k 0, .int), (k 1, .long), (k 2, .object RX3), (k 3, .array .int), (k 4, .array .long)]
def gx_strs : List (String × Nat × String) := [(RX4, 38, "road"), (RX4, 52, "one"), (RX4, 60, "gone"), (RX4, 65, "at"), (RX4, 70, "anew"), (RX4, 75, "shut"), (RX7, 194, "road"), (RX7, 208, "one"), (RX7, 209, "gone"), (RX7, 214, "at"), (RX7, 215, "anew"), (RX7, 216, "shut")]
/-- what the tables say that no word of gx_T says -/
def gx_N (U : State) : Prop := va_Nw (.methodLinkNest RX6 24 yX4_init RX6) U ∧ va_Nw (.methodLinkNest RX6 37 yX5_init RX6) U ∧ va_Nw (.methodLinkNest RX6 52 yX3_init RX6) U ∧ va_AO RX3 U ∧ (Cond.arrayOver (.array .int)).before #[] U = true ∧ (Cond.arrayOver (.array .long)).before #[] U = true ∧ ∀ q ∈ gx_strs, ∃ a : Nat, vk_R q.1 q.2.1 q.2.2 a U
theorem gx_AOA {ty : FieldType} {u U : State} (hvm : u.vm.Alike U.vm) (h : (Cond.arrayOver (.array ty)).before #[] u = true) : (Cond.arrayOver (.array ty)).before #[] U = true := by
  have hi : ∀ comp : ClassId, (U.vm.classes.findIdx? fun (x : Class) => match x.kind with | .array component _ => component == comp | _ => false) = (u.vm.classes.findIdx? fun (x : Class) => match x.kind with | .array component _ => component == comp | _ => false) := by
    intro comp
    have hbe : U.vm.bare = u.vm.bare := by first | exact hvm.bare_eq | exact hvm.bare_eq.symm
    exact (va_idx_bare U.vm comp).symm.trans ((congrArg (fun b : Vm => (b.classes.findIdx? fun (x : Class) => match x.kind with | .array component _ => component == comp | _ => false)) hbe).trans (va_idx_bare u.vm comp))
  simp only [Cond.before, Cond.holds, Cond.value, beq_iff_eq] at h ⊢
  rw [hvm.findClass, hvm.findClass]
  cases hc : u.vm.findClass (FieldType.array ty).toString with
  | none => simp [hc] at h
  | some comp =>
    simp only [hc, Option.bind_some, Option.bind_eq_some_iff, Option.map_eq_some_iff] at h ⊢
    obtain ⟨c, h1, k, h2, h3⟩ := h
    obtain ⟨k', hk', he⟩ := hvm.2.2 _ _ h2
    refine ⟨c, (hi comp).trans h1, k', hk', ?_⟩
    rw [he]
    exact h3
theorem gx_N.same {u U : State} (h : u.vm = U.vm) (hN : gx_N u) : gx_N U := by
  have ha : u.vm.Alike U.vm := by rw [h]; exact Vm.Alike.refl _
  exact ⟨hN.1.same rfl h, hN.2.1.same rfl h, hN.2.2.1.same rfl h, va_AO.moved ha hN.2.2.2.1, gx_AOA ha hN.2.2.2.2.1, gx_AOA ha hN.2.2.2.2.2.1, fun q hq => by
    obtain ⟨a, hz⟩ := hN.2.2.2.2.2.2 q hq
    exact ⟨a, hz.same h.symm⟩⟩
theorem gx_N.warm {s U : State} (hW : s.WarmedH U.vm) (hN : gx_N s) : gx_N U := ⟨hN.1.warmM hW, hN.2.1.warmM hW, hN.2.2.1.warmM hW, va_AO.moved hW.alike hN.2.2.2.1, gx_AOA hW.alike hN.2.2.2.2.1, gx_AOA hW.alike hN.2.2.2.2.2.1, fun q hq => by
    obtain ⟨a, hz⟩ := hN.2.2.2.2.2.2 q hq
    exact ⟨a, hz.warm hW⟩⟩
def gx_K (D : va_G) (k : Nat → ClassId) (U : State) : Prop := va_K D gx_cl (gx_ty k) U ∧ gx_N U
theorem gx_K.warm {D : va_G} {k : Nat → ClassId} {s U : State} (hW : s.WarmedH U.vm) (h : gx_K D k s) : gx_K D k U := ⟨va_K.moved hW.alike h.1, h.2.warm hW⟩
abbrev gx_Pre (D : va_G) (k : Nat → ClassId) (av : List Value) (ws : va_W) (sz : Nat) : Array Value → State → Prop := va_Pc av (fun U => U.heap.size = sz ∧ va_P D gx_cl ws U.heap ∧ gx_K D k U ∧ va_D (fun _ => True) ws)
theorem gx_blind {D : va_G} {k : Nat → ClassId} {av : List Value} {ws : va_W} {sz : Nat} : FrameBlind (gx_Pre D k av ws sz) := fun a U g mk q => ⟨q.1, q.2.1, q.2.2.1, ⟨va_K.moved (u := U) (U := U.calling g mk a) (Vm.Alike.refl U.vm) q.2.2.2.1.1, gx_N.same (u := U) (U := U.calling g mk a) rfl q.2.2.2.1.2⟩, q.2.2.2.2⟩
abbrev gx_Qi (D : va_G) {S : Type} (post : Int32 → S → Prop) (w1 : S → va_W) (A : Nat → Prop) : Array Value → State → Outcome → State → Prop := va_Qi post (fun u t => va_P D gx_cl (w1 u) t.heap ∧ va_D A (w1 u)) A
abbrev gx_Ql (D : va_G) {S : Type} (post : Int64 → S → Prop) (w1 : S → va_W) (A : Nat → Prop) : Array Value → State → Outcome → State → Prop := va_Ql post (fun u t => va_P D gx_cl (w1 u) t.heap ∧ va_D A (w1 u)) A
abbrev gx_Qv (D : va_G) {S : Type} (post : S → Prop) (w1 : S → va_W) (A : Nat → Prop) : Array Value → State → Outcome → State → Prop := va_Qv post (fun u t => va_P D gx_cl (w1 u) t.heap ∧ va_D A (w1 u)) A
abbrev gx_Qr (D : va_G) {S : Type} (post : S → Prop) (w1 : S → Nat → va_W) (A : Nat → Prop) : Array Value → State → Outcome → State → Prop := va_Qr post (fun u a t => va_P D gx_cl (w1 u a) t.heap ∧ va_D A (w1 u a)) A
abbrev gx_No : Nat → Prop := fun _ => False
abbrev gx_Pi (post : Int32 → Prop) : Array Value → State → Outcome → State → Prop := va_Qi (fun r (_ : Unit) => post r) (fun _ _ => True) gx_No
abbrev gx_Pl (post : Int64 → Prop) : Array Value → State → Outcome → State → Prop := va_Ql (fun r (_ : Unit) => post r) (fun _ _ => True) gx_No
/-- what a method's walk stands on -/
def gx_C (p : Program) (s : State) (m : MethodId) (args : Array Value) (meth : Method) (c : Code) (cc : ByteArray) (n : Nat) (ret : Option FieldType) (y : MethodName) : Prop := p.tables.exec = Jvm.exec ∧ c.code = cc ∧ meth.sig.returnType = ret ∧ c.maxLocals = n ∧ s.vm.findClass y.cls = some m.cls ∧ (∀ w ∈ gx_T, w.before args s = true) ∧ meth.locks = false ∧ meth.name = y.name
theorem gx_metE {l : Launch} {y : MethodName} {cc : ByteArray} {n : Nat} {ret : Option FieldType} {rm : Room} {D : va_G} {k : Nat → ClassId} {av : List Value} {ws : va_W} {sz mc ms : Nat} {Qc : (Nat → Prop) → Array Value → State → Outcome → State → Prop} (hy : plainName y.cls = true) (hn : (lg_sl av).length ≤ n)
    (body : ∀ (p : Program) (e : Env) (s : State) (m : MethodId) (below : List Frame) (meth : Method) (c : Code) (A : Nat → Prop) (ls : Array Slot), gx_C p s m av.toArray meth c cc n ret y → (∀ q, s.heap.size ≤ q → A q) → va_P D gx_cl ws s.heap → va_D A ws → gx_K D k s → va_S A s.heap s.heap [] → lv_has ls n (lv_args 0 av) →
      W p l e rm s m av.toArray below meth c s.heap [] 0 0 (MQ below (Qc A) av.toArray s mc ms A) (F0 m 0 ls [])) : Met l y (.code y cc n ret :: gx_T) rm (gx_Pre D k av ws sz) (Qc (va_A ws sz)) mc ms (va_A ws sz) := by
  refine Met.ofW (cc := cc) (maxL := n) (ret := ret) hy rfl ?_
  intro p e s m args below meth c s₁ B hml hv
  obtain ⟨rfl, hsz, hP, hK, hD0⟩ := hv
  subst hsz
  have hts := atoms_spec (ws := Cond.code y cc n ret :: gx_T) B.pre
  rw [lg_entry_eq]
  exact body p e s m below meth c _ _ ⟨B.exec, B.bytes, B.returns, hml, findClass_of_methodNamed B.named, fun w h => hts w (List.mem_cons_of_mem _ h), B.notSynchronized, (name_of_methodNamed B.named B.method).1⟩ (fun q h => Or.inr h) hP hD0.self hK va_S.rf (lv_entry av hn)
theorem gx_metP {l : Launch} {y : MethodName} {cc : ByteArray} {n : Nat} {ret : Option FieldType} {rm : Room} {D : va_G} {k : Nat → ClassId} {av : List Value} {ws : va_W} {sz : Nat} {Qc : Array Value → State → Outcome → State → Prop} (hy : plainName y.cls = true) (hn : (lg_sl av).length ≤ n)
    (body : ∀ (p : Program) (e : Env) (s : State) (m : MethodId) (below : List Frame) (meth : Method) (c : Code) (ls : Array Slot), gx_C p s m av.toArray meth c cc n ret y → va_P D gx_cl ws s.heap → va_D (fun _ => True) ws → gx_K D k s → va_S gx_No s.heap s.heap [] → lv_has ls n (lv_args 0 av) →
      W p l e rm s m av.toArray below meth c s.heap [] 0 0 (MQ below Qc av.toArray s 0 0 gx_No) (F0 m 0 ls [])) : Met l y (.code y cc n ret :: gx_T) rm (gx_Pre D k av ws sz) Qc 0 0 gx_No := by
  refine Met.ofW (cc := cc) (maxL := n) (ret := ret) hy rfl ?_
  intro p e s m args below meth c s₁ B hml hv
  obtain ⟨rfl, hsz, hP, hK, hD0⟩ := hv
  have hts := atoms_spec (ws := Cond.code y cc n ret :: gx_T) B.pre
  rw [lg_entry_eq]
  exact body p e s m below meth c _ ⟨B.exec, B.bytes, B.returns, hml, findClass_of_methodNamed B.named, fun w h => hts w (List.mem_cons_of_mem _ h), B.notSynchronized, (name_of_methodNamed B.named B.method).1⟩ hP hD0 hK va_S.rf (lv_entry av hn)
section GX
variable {p : Program} {l : Launch} {e : Env} {R : Room} {s : State} {m : MethodId} {args : Array Value} {below : List Frame} {meth : Method} {c : Code} {H : Heap} {locs : List Loc} {cells slots : Nat} {Q : State → Prop}
variable {cc : ByteArray} {pc n : Nat} {ls : Array Slot} {rest : List Value} {D : va_G} {A : Nat → Prop} {k : Nat → ClassId} {ws : va_W} {y0 : MethodName} {ret : Option FieldType} {H0 : Heap}
theorem gx_cst {x v : Int32} (h : x = v) (kk : W p l e R s m args below meth c H locs cells slots Q (F0 m pc ls (.int v :: rest))) : W p l e R s m args below meth c H locs cells slots Q (F0 m pc ls (.int x :: rest)) := by
  subst h; exact kk
theorem gx_cstl {x v : Int64} (h : x = v) (kk : W p l e R s m args below meth c H locs cells slots Q (F0 m pc ls (.long v :: rest))) : W p l e R s m args below meth c H locs cells slots Q (F0 m pc ls (.long x :: rest)) := by
  subst h; exact kk
theorem gx_csr {x v : Value} (h : x = v) (kk : W p l e R s m args below meth c H locs cells slots Q (F0 m pc ls (v :: rest))) : W p l e R s m args below meth c H locs cells slots Q (F0 m pc ls (x :: rest)) := by
  subst h; exact kk
theorem gx_retI (C : gx_C p s m args meth c cc n (some .int) y0) {S : Type} {post : Int32 → S → Prop} {w1 : S → va_W} (u : S) (hP : va_P D gx_cl (w1 u) H) (hD : va_D A (w1 u)) (hS : va_S A s.heap H locs) {v : Int32} (hp : post v u) (hdg : decode cc pc = .ok (.ireturn, 1)) : W p l e R s m args below meth c H locs cells slots (MQ below (gx_Qi D post w1 A) args s cells slots A) (F0 m pc ls [.int v]) := by
  obtain ⟨hx, hb, hr, hml, hown, hT, hlk, -⟩ := C
  exact W.iret hx hb hr (fun t ht hW => ⟨⟨v, u, rfl, hp, by rw [ht]; exact hP, hD⟩, hS.F ht⟩) hS.2.2 hdg hlk
theorem gx_retZ (C : gx_C p s m args meth c cc n (some .boolean) y0) {S : Type} {post : Int32 → S → Prop} {w1 : S → va_W} (u : S) (hP : va_P D gx_cl (w1 u) H) (hD : va_D A (w1 u)) (hS : va_S A s.heap H locs) {v : Int32} (hv : narrow .boolean (.int v) = .int v) (hp : post v u) (hdg : decode cc pc = .ok (.ireturn, 1)) : W p l e R s m args below meth c H locs cells slots (MQ below (gx_Qi D post w1 A) args s cells slots A) (F0 m pc ls [.int v]) := by
  obtain ⟨hx, hb, hr, hml, hown, hT, hlk, -⟩ := C
  exact W.zret hx hb hr hv (fun t ht hW => ⟨⟨v, u, rfl, hp, by rw [ht]; exact hP, hD⟩, hS.F ht⟩) hS.2.2 hdg hlk
theorem gx_retV (C : gx_C p s m args meth c cc n none y0) {S : Type} {post : S → Prop} {w1 : S → va_W} (u : S) (hP : va_P D gx_cl (w1 u) H) (hD : va_D A (w1 u)) (hS : va_S A s.heap H locs) (hp : post u) (hdg : decode cc pc = .ok (.return_, 1)) : W p l e R s m args below meth c H locs cells slots (MQ below (gx_Qv D post w1 A) args s cells slots A) (F0 m pc ls []) := by
  obtain ⟨hx, hb, hr, hml, hown, hT, hlk, -⟩ := C
  exact W.vret hx hb hr (fun t ht hW => ⟨⟨u, rfl, hp, by rw [ht]; exact hP, hD⟩, hS.F ht⟩) hS.2.2 hdg hlk
theorem gx_retP (C : gx_C p s m args meth c cc n (some .int) y0) {post : Int32 → Prop} (hS : va_S gx_No s.heap H locs) {v : Int32} (hp : post v) (hdg : decode cc pc = .ok (.ireturn, 1)) : W p l e R s m args below meth c H locs cells slots (MQ below (gx_Pi post) args s cells slots gx_No) (F0 m pc ls [.int v]) := by
  obtain ⟨hx, hb, hr, hml, hown, hT, hlk, -⟩ := C
  exact W.iret hx hb hr (fun t ht hW => ⟨⟨v, (), rfl, hp, trivial⟩, hS.F ht⟩) hS.2.2 hdg hlk
theorem gx_retPZ (C : gx_C p s m args meth c cc n (some .boolean) y0) {post : Int32 → Prop} (hS : va_S gx_No s.heap H locs) {v : Int32} (hv : narrow .boolean (.int v) = .int v) (hp : post v) (hdg : decode cc pc = .ok (.ireturn, 1)) : W p l e R s m args below meth c H locs cells slots (MQ below (gx_Pi post) args s cells slots gx_No) (F0 m pc ls [.int v]) := by
  obtain ⟨hx, hb, hr, hml, hown, hT, hlk, -⟩ := C
  exact W.zret hx hb hr hv (fun t ht hW => ⟨⟨v, (), rfl, hp, trivial⟩, hS.F ht⟩) hS.2.2 hdg hlk
theorem gx_retPL (C : gx_C p s m args meth c cc n (some .long) y0) {post : Int64 → Prop} (hS : va_S gx_No s.heap H locs) {v : Int64} (hp : post v) (hdg : decode cc pc = .ok (.lreturn, 1)) : W p l e R s m args below meth c H locs cells slots (MQ below (gx_Pl post) args s cells slots gx_No) (F0 m pc ls [.long v]) := by
  obtain ⟨hx, hb, hr, hml, hown, hT, hlk, -⟩ := C
  exact W.lret hx hb hr (fun t ht hW => ⟨⟨v, (), rfl, hp, trivial⟩, hS.F ht⟩) hS.2.2 hdg hlk
theorem gx_none (hP : va_P D gx_cl ws H) : va_P D gx_cl [] H := fun k q h => by simp at h
theorem gx_noneD : va_D A [] := ⟨fun i j p q h => by simp at h, fun k q h => by simp at h⟩
theorem gx_nil : va_P D gx_cl [] H := fun k q h => by simp at h
theorem gx_subP {wc : va_W} (hP : va_P D gx_cl ws H) (is : List Nat) (h : is.map (fun i => ws[i]?) = wc.map some) : va_P D gx_cl wc H := by
  intro j q hq
  have h1 : (is.map (fun i => ws[i]?))[j]? = some (some q) := by rw [h, List.getElem?_map, hq]; rfl
  rw [List.getElem?_map] at h1
  cases hi : is[j]? with
  | none => rw [hi] at h1; cases h1
  | some i => rw [hi] at h1; exact hP i q (Option.some.inj h1)
-- ===== calls: the run =====
variable {y : MethodName} {bytes : ByteArray} {maxL mc ms index na ci N : Nat} {rt : Option FieldType} {rm : Room} {Qc : Array Value → State → Outcome → State → Prop} {free : Addr → Prop} {b : Nat} {As st0 : List Value} {wc : va_W} {Cn : String} {fs : List Value} {T : u_T}
theorem gx_runV (C : gx_C p s m args meth c cc n ret y0) (hl : ls.size = n) (hK : gx_K D k s) (hPc : va_P D gx_cl wc H) (hDc : va_D (fun _ => True) wc)
    (hM : Met l y (.code y bytes maxL rt :: gx_T) rm (gx_Pre D k (.ref b :: As) wc H.size) Qc mc ms free) (hG : GoodIn gx_T (wsV y0.cls index Cn y (.code y bytes maxL rt :: gx_T)))
    (hd : y.cls = Cn ∧ y.cls ≠ "java/lang/invoke/MethodHandle" ∧ y.cls ≠ "java/lang/invoke/VarHandle" ∧ (parseMethodDescriptor y.desc).map (fun d => d.parameters.length) = some na) (hrc : rm.cells = mc) (hrs : rm.slots = ms) (hR : rm.frames + 1 ≤ R.frames ∧ 8 + (maxL + 11) + rm.locals ≤ R.locals)
    (hrec : wc[0]? = some (b, .inr (ci, fs))) (hci : gx_cl[ci]? = some (Cn, T, N)) (hna : As.length = na) (hst : st0 = As.reverse ++ .ref b :: rest) (hroom : (rest.map fun v => v.category).sum ≤ 8) (hdg : decode cc pc = .ok (.invokevirtual index, 3)) (hf : cells + mc ≤ R.cells ∧ slots + ms ≤ R.slots) :
    va_Run p l e R s m args below meth c H locs cells slots mc ms (F0 m pc ls st0) rest (Qc (Value.ref b :: As).toArray) free := by
  obtain ⟨hx, hb, hr, hml, hown, hT, hlk, -⟩ := C
  exact va_runV (As := As) (rest := rest) (C := Cn) ⟨hx, hb, hml, hown, hT⟩ hM (cwV na hT hG rfl hrc hrs hd hR) ⟨gx_blind, va_recv hK.1 hPc hci hrec, fun U hU hW => ⟨rfl, by rw [hU], by rw [hU]; exact hPc, hK.warm hW, hDc⟩⟩ rfl hna hl hst (lv_room hroom) hdg hf
theorem gx_runS (C : gx_C p s m args meth c cc n ret y0) (hl : ls.size = n) (hK : gx_K D k s) (hPc : va_P D gx_cl wc H) (hDc : va_D (fun _ => True) wc)
    (hM : Met l y (.code y bytes maxL rt :: gx_T) rm (gx_Pre D k As wc H.size) Qc mc ms free) (hG : GoodIn gx_T (va_wsS y0.cls index y (.code y bytes maxL rt :: gx_T)))
    (hd : y.cls ≠ "java/lang/invoke/MethodHandle" ∧ y.cls ≠ "java/lang/invoke/VarHandle" ∧ (parseMethodDescriptor y.desc).map (fun d => d.parameters.length) = some na) (hrc : rm.cells = mc) (hrs : rm.slots = ms) (hR : rm.frames + 1 ≤ R.frames ∧ 8 + (maxL + 11) + rm.locals ≤ R.locals)
    (hna : As.length = na) (hst : st0 = As.reverse ++ rest) (hroom : (rest.map fun v => v.category).sum ≤ 8) (hdg : decode cc pc = .ok (.invokestatic index, 3)) (hf : cells + mc ≤ R.cells ∧ slots + ms ≤ R.slots) :
    va_Run p l e R s m args below meth c H locs cells slots mc ms (F0 m pc ls st0) rest (Qc As.toArray) free := by
  obtain ⟨hx, hb, hr, hml, hown, hT, hlk, -⟩ := C
  exact va_runS (As := As) (rest := rest) ⟨hx, hb, hml, hown, hT⟩ hM (va_cwS na hT hG rfl hrc hrs hd hR) ⟨gx_blind, fun U hU hW => ⟨rfl, by rw [hU], by rw [hU]; exact hPc, hK.warm hW, hDc⟩⟩ rfl hna hl hst (lv_room hroom) hdg hf
theorem gx_runI (C : gx_C p s m args meth c cc n ret y0) (hl : ls.size = n) (hK : gx_K D k s) (hPc : va_P D gx_cl wc H) (hDc : va_D (fun _ => True) wc)
    (hM : Met l y (.code y bytes maxL none :: gx_T) rm (gx_Pre D k (.ref b :: As) wc H.size) Qc mc ms free) (hG : GoodIn gx_T (.code y bytes maxL none :: gx_T)) (hi : Cond.initialized y.cls ∈ gx_T) (hlk2 : Cond.methodLink y0.cls index y ∈ gx_T) (him : Cond.instanceMethod y ∈ gx_T) (hy1 : y.name = "<init>")
    (hd : y.cls ≠ "java/lang/invoke/MethodHandle" ∧ y.cls ≠ "java/lang/invoke/VarHandle" ∧ (parseMethodDescriptor y.desc).map (fun d => d.parameters.length) = some na) (hrc : rm.cells = mc) (hrs : rm.slots = ms) (hR : rm.frames + 1 ≤ R.frames ∧ 8 + (maxL + 11) + rm.locals ≤ R.locals)
    (hna : As.length = na) (hst : st0 = As.reverse ++ .ref b :: rest) (hroom : (rest.map fun v => v.category).sum ≤ 8) (hdg : decode cc pc = .ok (.invokespecial index, 3)) (hf : cells + mc ≤ R.cells ∧ slots + ms ≤ R.slots) :
    va_Run p l e R s m args below meth c H locs cells slots mc ms (F0 m pc ls st0) rest (Qc (Value.ref b :: As).toArray) free := by
  obtain ⟨hx, hb, hr, hml, hown, hT, hlk, -⟩ := C
  exact va_runI (As := As) (rest := rest) ⟨hx, hb, hml, hown, hT⟩ hM (cwI na hT hG rfl hrc hrs (hT _ hi) (hT _ hlk2) (hT _ him) hy1 hd hR) ⟨gx_blind, fun U hU hW => ⟨rfl, by rw [hU], by rw [hU]; exact hPc, hK.warm hW, hDc⟩⟩ rfl hna hl hst (lv_room hroom) hdg hf
theorem gx_runN (C : gx_C p s m args meth c cc n ret y0) (hl : ls.size = n) (hK : gx_K D k s) (hPc : va_P D gx_cl wc H) (hDc : va_D (fun _ => True) wc) {host : String}
    (hM : Met l y (.code y bytes maxL none :: gx_T) rm (gx_Pre D k (.ref b :: As) wc H.size) Qc mc ms free) (hG : GoodIn gx_T (.code y bytes maxL none :: gx_T)) (hi : Cond.initialized y.cls ∈ gx_T) (hlk2 : va_Nw (.methodLinkNest y0.cls index y host) s) (him : Cond.instanceMethod y ∈ gx_T) (hy1 : y.name = "<init>")
    (hd : y.cls ≠ "java/lang/invoke/MethodHandle" ∧ y.cls ≠ "java/lang/invoke/VarHandle" ∧ (parseMethodDescriptor y.desc).map (fun d => d.parameters.length) = some na) (hrc : rm.cells = mc) (hrs : rm.slots = ms) (hR : rm.frames + 1 ≤ R.frames ∧ 8 + (maxL + 11) + rm.locals ≤ R.locals)
    (hna : As.length = na) (hst : st0 = As.reverse ++ .ref b :: rest) (hroom : (rest.map fun v => v.category).sum ≤ 8) (hdg : decode cc pc = .ok (.invokespecial index, 3)) (hf : cells + mc ≤ R.cells ∧ slots + ms ≤ R.slots) :
    va_Run p l e R s m args below meth c H locs cells slots mc ms (F0 m pc ls st0) rest (Qc (Value.ref b :: As).toArray) free := by
  obtain ⟨hx, hb, hr, hml, hown, hT, hlk, -⟩ := C
  exact va_runIN (As := As) (rest := rest) ⟨hx, hb, hml, hown, hT⟩ hM ⟨va_cnB na hT hG rfl hrc hrs hlk2 (hT _ hi) hd hR, hy1, hT _ him⟩ ⟨gx_blind, fun U hU hW => ⟨rfl, by rw [hU], by rw [hU]; exact hPc, hK.warm hW, hDc⟩⟩ rfl hna hl hst (lv_room hroom) hdg hf
-- ===== calls: what goes on behind them =====
variable {a : Array Value} {wr : va_W} {isC isR : List Nat}
theorem gx_pi {post : Int32 → Prop} (hP : va_P D gx_cl ws H) (hS : va_S A H0 H locs) (hr : va_Run p l e R s m args below meth c H locs cells slots 0 0 (F0 m pc ls st0) rest (gx_Pi post a) gx_No)
    (kk : ∀ (r : Int32) (H1 : Heap) (locs1 : List Loc), post r → va_P D gx_cl ws H1 → va_S A H0 H1 locs1 → W p l e R s m args below meth c H1 locs1 cells slots Q (F0 m (pc + 3) ls (.int r :: rest))) : W p l e R s m args below meth c H locs cells slots Q (F0 m pc ls st0) :=
  va_calli hr hS (fun q _ h => h.elim) (fun q h => h.elim) (fun r u t H1 locs1 ht hvm hp hB hz hk hS1 => kk r H1 locs1 hp (hP.kept (fun i x hx => hk x.1 (hP i x hx).lt (fun h => h))) hS1)
theorem gx_pl {post : Int64 → Prop} (hP : va_P D gx_cl ws H) (hS : va_S A H0 H locs) (hr : va_Run p l e R s m args below meth c H locs cells slots 0 0 (F0 m pc ls st0) rest (gx_Pl post a) gx_No)
    (kk : ∀ (r : Int64) (H1 : Heap) (locs1 : List Loc), post r → va_P D gx_cl ws H1 → va_S A H0 H1 locs1 → W p l e R s m args below meth c H1 locs1 cells slots Q (F0 m (pc + 3) ls (.long r :: rest))) : W p l e R s m args below meth c H locs cells slots Q (F0 m pc ls st0) :=
  va_calll hr hS (fun q _ h => h.elim) (fun q h => h.elim) (fun r u t H1 locs1 ht hvm hp hB hz hk hS1 => kk r H1 locs1 hp (hP.kept (fun i x hx => hk x.1 (hP i x hx).lt (fun h => h))) hS1)
theorem gx_ei {S : Type} {post : Int32 → S → Prop} {w1 : S → va_W} (hP : va_P D gx_cl ws H) (hD : va_D A ws) (hS : va_S A H0 H locs) (hA : ∀ q, H0.size ≤ q → A q) (hC : isC.map (fun i => ws[i]?) = wc.map some) (hR : isR.map (fun i => ws[i]?) = wr.map some) (hn : va_nd isR = true) (hdis : ∀ i ∈ isR, i ∉ isC)
    (hr : va_Run p l e R s m args below meth c H locs cells slots mc ms (F0 m pc ls st0) rest (gx_Qi D post w1 (va_A wc H.size) a) (va_A wc H.size))
    (kk : ∀ (r : Int32) (u : S) (H1 : Heap) (locs1 : List Loc), post r u → va_P D gx_cl (wr ++ w1 u) H1 → va_D A (wr ++ w1 u) → va_S A H0 H1 locs1 → W p l e R s m args below meth c H1 locs1 (cells + mc) (slots + ms) Q (F0 m (pc + 3) ls (.int r :: rest))) : W p l e R s m args below meth c H locs cells slots Q (F0 m pc ls st0) := by
  have hFc := va_free (wc := wc) hD hS hA isC hC
  refine va_calli hr hS (fun q _ h => hFc q h) hFc (fun r u t H1 locs1 ht hvm hp hB hz hk hS1 => ?_)
  obtain ⟨hP1, hD1⟩ := hB
  rw [ht] at hP1
  obtain ⟨hP2, hD2⟩ := va_join hP hD isC isR hC hR hn hdis hk hFc hP1 hD1
  exact kk r u H1 locs1 hp hP2 hD2 hS1
theorem gx_ev {S : Type} {post : S → Prop} {w1 : S → va_W} (hP : va_P D gx_cl ws H) (hD : va_D A ws) (hS : va_S A H0 H locs) (hA : ∀ q, H0.size ≤ q → A q) (hC : isC.map (fun i => ws[i]?) = wc.map some) (hR : isR.map (fun i => ws[i]?) = wr.map some) (hn : va_nd isR = true) (hdis : ∀ i ∈ isR, i ∉ isC)
    (hr : va_Run p l e R s m args below meth c H locs cells slots mc ms (F0 m pc ls st0) rest (gx_Qv D post w1 (va_A wc H.size) a) (va_A wc H.size))
    (kk : ∀ (u : S) (H1 : Heap) (locs1 : List Loc), post u → va_P D gx_cl (wr ++ w1 u) H1 → va_D A (wr ++ w1 u) → va_S A H0 H1 locs1 → W p l e R s m args below meth c H1 locs1 (cells + mc) (slots + ms) Q (F0 m (pc + 3) ls (rest))) : W p l e R s m args below meth c H locs cells slots Q (F0 m pc ls st0) := by
  have hFc := va_free (wc := wc) hD hS hA isC hC
  refine va_callv hr hS (fun q _ h => hFc q h) hFc (fun u t H1 locs1 ht hvm hp hB hz hk hS1 => ?_)
  obtain ⟨hP1, hD1⟩ := hB
  rw [ht] at hP1
  obtain ⟨hP2, hD2⟩ := va_join hP hD isC isR hC hR hn hdis hk hFc hP1 hD1
  exact kk u H1 locs1 hp hP2 hD2 hS1
theorem gx_er {S : Type} {post : S → Prop} {w1 : S → Nat → va_W} (hP : va_P D gx_cl ws H) (hD : va_D A ws) (hS : va_S A H0 H locs) (hA : ∀ q, H0.size ≤ q → A q) (hC : isC.map (fun i => ws[i]?) = wc.map some) (hR : isR.map (fun i => ws[i]?) = wr.map some) (hn : va_nd isR = true) (hdis : ∀ i ∈ isR, i ∉ isC)
    (hr : va_Run p l e R s m args below meth c H locs cells slots mc ms (F0 m pc ls st0) rest (gx_Qr D post w1 (va_A wc H.size) a) (va_A wc H.size))
    (kk : ∀ (u : S) (ra : Nat) (H1 : Heap) (locs1 : List Loc), post u → va_P D gx_cl (wr ++ w1 u ra) H1 → va_D A (wr ++ w1 u ra) → va_S A H0 H1 locs1 → W p l e R s m args below meth c H1 locs1 (cells + mc) (slots + ms) Q (F0 m (pc + 3) ls (.ref ra :: rest))) : W p l e R s m args below meth c H locs cells slots Q (F0 m pc ls st0) := by
  have hFc := va_free (wc := wc) hD hS hA isC hC
  refine va_callr hr hS (fun q _ h => hFc q h) hFc (fun u ra t H1 locs1 ht hvm hp hB hz hk hS1 => ?_)
  obtain ⟨hP1, hD1⟩ := hB
  rw [ht] at hP1
  obtain ⟨hP2, hD2⟩ := va_join hP hD isC isR hC hR hn hdis hk hFc hP1 hD1
  exact kk u ra H1 locs1 hp hP2 hD2 hS1
-- ===== arrays of known classes =====
theorem gx_newI (hexec : p.tables.exec = Jvm.exec) (hb : c.code = cc) (hT : ∀ w ∈ gx_T, w.before args s = true) (hw : Cond.arrayClass .int ∈ gx_T) (hK : gx_K D k s) (hP : va_P D gx_cl ws H) (hD : va_D A ws) (hS : va_S A H0 H locs) (hA : ∀ q, H0.size ≤ q → A q) {x : Int32} {N' : Nat} (hn : ¬ x < 0) (hN : x.toNatClampNeg = N') (hbytes : N' * 4 ≤ 536870912) (hcells : cells + 1 ≤ R.cells) (hslots : slots + N' ≤ R.slots) (hdg : decode cc pc = .ok (.newarray .int, 2))
    (kk : ∀ (q : Nat) (H1 : Heap), va_P D gx_cl (ws ++ [(q, .inl (k 0, N', .inl (fun _ => 0)))]) H1 → va_D A (ws ++ [(q, .inl (k 0, N', .inl (fun _ => 0)))]) → va_S A H0 H1 locs → W p l e R s m args below meth c H1 locs (cells + 1) (slots + N') Q (F0 m (pc + 2) ls (.ref q :: rest))) : W p l e R s m args below meth c H locs cells slots Q (F0 m pc ls (.int x :: rest)) := by
  refine va_newa (atype := .int) (ty := .int) (N' := N') (a0 := (N', .inl (fun _ => 0))) hexec hb (hT _ hw) rfl hK.1 hP hD hS hA (fun cA => rfl) hn hN hbytes hcells hslots hdg (fun q cA H1 hK1 hP1 hD1 hS1 => ?_)
  have h1 : s.vm.findClass ("[" ++ FieldType.int.toString) = some cA := (hK1.2 5 (cA, .int) rfl).2
  have h2 : s.vm.findClass ("[" ++ FieldType.int.toString) = some (k 0) := (hK.1.2 0 (k 0, .int) rfl).2
  have h3 : cA = k 0 := Option.some.inj (h1.symm.trans h2)
  subst h3
  exact kk q H1 hP1 hD1 hS1
theorem gx_newJ (hexec : p.tables.exec = Jvm.exec) (hb : c.code = cc) (hT : ∀ w ∈ gx_T, w.before args s = true) (hw : Cond.arrayClass .long ∈ gx_T) (hK : gx_K D k s) (hP : va_P D gx_cl ws H) (hD : va_D A ws) (hS : va_S A H0 H locs) (hA : ∀ q, H0.size ≤ q → A q) {x : Int32} {N' : Nat} (hn : ¬ x < 0) (hN : x.toNatClampNeg = N') (hbytes : N' * 8 ≤ 536870912) (hcells : cells + 1 ≤ R.cells) (hslots : slots + N' ≤ R.slots) (hdg : decode cc pc = .ok (.newarray .long, 2))
    (kk : ∀ (q : Nat) (H1 : Heap), va_P D gx_cl (ws ++ [(q, .inl (k 1, N', .inr (.inl (fun _ => 0))))]) H1 → va_D A (ws ++ [(q, .inl (k 1, N', .inr (.inl (fun _ => 0))))]) → va_S A H0 H1 locs → W p l e R s m args below meth c H1 locs (cells + 1) (slots + N') Q (F0 m (pc + 2) ls (.ref q :: rest))) : W p l e R s m args below meth c H locs cells slots Q (F0 m pc ls (.int x :: rest)) := by
  refine va_newa (atype := .long) (ty := .long) (N' := N') (a0 := (N', .inr (.inl (fun _ => 0)))) hexec hb (hT _ hw) rfl hK.1 hP hD hS hA (fun cA => rfl) hn hN hbytes hcells hslots hdg (fun q cA H1 hK1 hP1 hD1 hS1 => ?_)
  have h1 : s.vm.findClass ("[" ++ FieldType.long.toString) = some cA := (hK1.2 5 (cA, .long) rfl).2
  have h2 : s.vm.findClass ("[" ++ FieldType.long.toString) = some (k 1) := (hK.1.2 1 (k 1, .long) rfl).2
  have h3 : cA = k 1 := Option.some.inj (h1.symm.trans h2)
  subst h3
  exact kk q H1 hP1 hD1 hS1
end GX
end
section
-- numbers, ranges, places
def gx_b (v lo hi : Int32) : Bool := decide (lo ≤ v ∧ v ≤ hi)
theorem gx_bn {v : Int32} : gx_b v 0 (-1) = false := by
  simp only [gx_b, decide_eq_false_iff_not, Int32.le_iff_toInt_le]
  intro h
  have h1 : (0 : Int32).toInt = 0 := by decide
  have h2 : (-1 : Int32).toInt = -1 := by decide
  omega
theorem gx_bt {v lo hi : Int32} (h1 : ¬ v < lo) (h2 : ¬ hi < v) : gx_b v lo hi = true := by
  simp only [gx_b, decide_eq_true_eq, Int32.le_iff_toInt_le, Int32.lt_iff_toInt_lt] at *
  omega
theorem gx_bf1 {v lo hi : Int32} (h1 : v < lo) : gx_b v lo hi = false := by
  simp only [gx_b, decide_eq_false_iff_not, Int32.le_iff_toInt_le, Int32.lt_iff_toInt_lt] at *
  omega
theorem gx_bf2 {v lo hi : Int32} (h1 : hi < v) : gx_b v lo hi = false := by
  simp only [gx_b, decide_eq_false_iff_not, Int32.le_iff_toInt_le, Int32.lt_iff_toInt_lt] at *
  omega
theorem gx_vin {i : Int32} {n : Nat} (h : decide (¬ (i < 0 ∨ n ≤ i.toNatClampNeg)) = true) : vp_in i n := (of_decide_eq_true h : ¬ (i < 0 ∨ n ≤ i.toNatClampNeg))
theorem gx_vb {v hi : Int32} {n : Nat} (h : gx_b v 0 hi = true) (h0 : hi.toInt + 1 = (n : Int)) (hn : n < 2 ^ 31) : vp_in v n := by
  simp only [gx_b, decide_eq_true_eq, Int32.le_iff_toInt_le] at h
  have h1 : (0 : Int32).toInt = 0 := by decide
  intro q
  rcases q with q | q
  · rw [Int32.lt_iff_toInt_lt] at q; omega
  · have : n ≤ v.toInt.toNat := q
    omega
/-- which of the places 0 .. 7 -/
theorem gx_8 {v : Int32} (h : gx_b v 0 7 = true) : v = 0 ∨ v = 1 ∨ v = 2 ∨ v = 3 ∨ v = 4 ∨ v = 5 ∨ v = 6 ∨ v = 7 := by
  simp only [gx_b, decide_eq_true_eq, Int32.le_iff_toInt_le] at h
  have h0 : (0 : Int32).toInt = 0 := by decide
  have h7 : (7 : Int32).toInt = 7 := by decide
  simp only [← Int32.toInt_inj]
  have h1 : (1 : Int32).toInt = 1 := by decide
  have h2 : (2 : Int32).toInt = 2 := by decide
  have h3 : (3 : Int32).toInt = 3 := by decide
  have h4 : (4 : Int32).toInt = 4 := by decide
  have h5 : (5 : Int32).toInt = 5 := by decide
  have h6 : (6 : Int32).toInt = 6 := by decide
  omega
theorem gx_out9 {x : Int32} (h0 : ¬ x = 0) (h1 : ¬ x = 1) (h2 : ¬ x = 2) (h3 : ¬ x = 3) (h4 : ¬ x = 4) (h5 : ¬ x = 5) (h6 : ¬ x = 6) (h7 : ¬ x = 7) (h8 : ¬ x = 8) : x.toInt < 0 ∨ 8 < x.toInt := by
  simp only [← Int32.toInt_inj] at *
  have e0 : (0 : Int32).toInt = 0 := by decide
  have e1 : (1 : Int32).toInt = 1 := by decide
  have e2 : (2 : Int32).toInt = 2 := by decide
  have e3 : (3 : Int32).toInt = 3 := by decide
  have e4 : (4 : Int32).toInt = 4 := by decide
  have e5 : (5 : Int32).toInt = 5 := by decide
  have e6 : (6 : Int32).toInt = 6 := by decide
  have e7 : (7 : Int32).toInt = 7 := by decide
  have e8 : (8 : Int32).toInt = 8 := by decide
  omega
section GY
variable {p : Program} {l : Launch} {e : Env} {R : Room} {s : State} {m : MethodId} {args : Array Value} {below : List Frame} {meth : Method} {c : Code} {H : Heap} {locs : List Loc} {cells slots : Nat} {Q : State → Prop}
variable {cc : ByteArray} {pc n : Nat} {ls : Array Slot} {rest : List Value} {D : va_G} {A : Nat → Prop} {k : Nat → ClassId} {ws : va_W} {y0 : MethodName} {ret : Option FieldType} {H0 : Heap}
theorem gx_newS (hexec : p.tables.exec = Jvm.exec) (hb : c.code = cc) (hT : ∀ w ∈ gx_T, w.before args s = true) {own : String} {index : Nat} (hw : Cond.classLink own index RX3 ∈ gx_T) (hown : s.vm.findClass own = some m.cls) (hK : gx_K D k s) (hP : va_P D gx_cl ws H) (hD : va_D A ws) (hS : va_S A H0 H locs) (hA : ∀ q, H0.size ≤ q → A q) {x : Int32} {N' : Nat} (hn : ¬ x < 0) (hN : x.toNatClampNeg = N') (hbytes : N' * 4 ≤ 536870912) (hcells : cells + 1 ≤ R.cells) (hslots : slots + N' ≤ R.slots) (hdg : decode cc pc = .ok (.anewarray index, 3))
    (kk : ∀ (q : Nat) (H1 : Heap), va_P D gx_cl (ws ++ [(q, .inl (k 2, N', .inr (.inr (.inr (.inr (fun _ => none))))))]) H1 → va_D A (ws ++ [(q, .inl (k 2, N', .inr (.inr (.inr (.inr (fun _ => none))))))]) → va_S A H0 H1 locs → W p l e R s m args below meth c H1 locs (cells + 1) (slots + N') Q (F0 m (pc + 3) ls (.ref q :: rest))) : W p l e R s m args below meth c H locs cells slots Q (F0 m pc ls (.int x :: rest)) := by
  refine va_newq (C := RX3) (N' := N') hexec hb hown (hT _ hw) hK.2.2.2.2.1 hK.1 hP hD hS hA hn hN hbytes hcells hslots hdg (fun q cA H1 hK1 hP1 hD1 hS1 => ?_)
  obtain ⟨_, _, _, _, _, h1⟩ := (hK1.2 5 (cA, .object RX3) rfl).2
  obtain ⟨_, _, _, _, _, h2⟩ := (hK.1.2 2 (k 2, .object RX3) rfl).2
  have h3 : cA = k 2 := Option.some.inj (h1.symm.trans h2)
  subst h3
  exact kk q H1 hP1 hD1 hS1
theorem gx_aldA (hexec : p.tables.exec = Jvm.exec) (hb : c.code = cc) {tys : List (ClassId × FieldType)} {a : Nat} (hK : va_K D gx_cl tys s) (hP : va_P D gx_cl ws H) (q0 t0 : Nat) {cA : ClassId} {ty : FieldType} {n : Nat} {f : Nat → Option Nat} (ha : ws[q0]? = some (a, .inl (cA, n, .inr (.inr (.inr (.inr f)))))) (ht : tys[t0]? = some (cA, .array ty)) {i : Int32} (hin : vp_in i n) (hdg : decode cc pc = .ok (.aaload, 1))
    (kk : W p l e R s m args below meth c H locs cells slots Q (F0 m (pc + 1) ls (va_rf (f i.toNatClampNeg) :: rest))) : W p l e R s m args below meth c H locs cells slots Q (F0 m pc ls (.int i :: .ref a :: rest)) := by
  have hlt : i.toNatClampNeg < n := Nat.not_le.mp fun q => hin (Or.inr q)
  exact W.aald (v := va_rf (f i.toNatClampNeg)) (ty := .array ty) hexec hb (hP q0 _ ha) ((hK.2 t0 _ ht).1 n (fun j => va_rf (f j))) rfl (fun q => by cases q) (by show ¬ (i < 0 ∨ (arrV _ _ _).slots.size ≤ _); rw [arrV_size]; exact hin) (by show (arrV _ _ _).slots[_]? = _; rw [arrV_read _ _ hlt]) rfl rfl hdg kk
theorem gx_retR (C : gx_C p s m args meth c cc n (some (.object "EachRoadOnceModel")) y0) {S : Type} {post : S → Prop} {w1 : S → Nat → va_W} (u : S) {va : Nat} (hP : va_P D gx_cl (w1 u va) H) (hD : va_D A (w1 u va)) (hS : va_S A s.heap H locs) (hp : post u) (hdg : decode cc pc = .ok (.areturn, 1)) : W p l e R s m args below meth c H locs cells slots (MQ below (gx_Qr D post w1 A) args s cells slots A) (F0 m pc ls [.ref va]) := by
  obtain ⟨hx, hb, hr, hml, hown, hT, hlk, -⟩ := C
  exact W.aret hx hb hr (Or.inl ⟨_, rfl⟩) (Or.inr ⟨_, rfl⟩) (fun t ht hW => ⟨⟨u, va, rfl, hp, by rw [ht]; exact hP, hD⟩, hS.F ht⟩) hS.2.2 hdg hlk
end GY
end
section
theorem iw_TX1 : ∀ w ∈ u_ws RX1 TX1 17, w ∈ gx_T := by
  intro w hw
  obtain ⟨j, hj, rfl⟩ := List.mem_map.mp hw
  have hj := List.mem_range.mp hj
  match j, hj with
  | 0, _ => exact gx_in (List.mem_of_getElem? (i := 153) (by decide +kernel)) (by decide +kernel)
  | 1, _ => exact gx_in (List.mem_of_getElem? (i := 155) (by decide +kernel)) (by decide +kernel)
  | 2, _ => exact gx_in (List.mem_of_getElem? (i := 157) (by decide +kernel)) (by decide +kernel)
  | 3, _ => exact gx_in (List.mem_of_getElem? (i := 159) (by decide +kernel)) (by decide +kernel)
  | 4, _ => exact gx_in (List.mem_of_getElem? (i := 161) (by decide +kernel)) (by decide +kernel)
  | 5, _ => exact gx_in (List.mem_of_getElem? (i := 163) (by decide +kernel)) (by decide +kernel)
  | 6, _ => exact gx_in (List.mem_of_getElem? (i := 165) (by decide +kernel)) (by decide +kernel)
  | 7, _ => exact gx_in (List.mem_of_getElem? (i := 167) (by decide +kernel)) (by decide +kernel)
  | 8, _ => exact gx_in (List.mem_of_getElem? (i := 169) (by decide +kernel)) (by decide +kernel)
  | 9, _ => exact gx_in (List.mem_of_getElem? (i := 171) (by decide +kernel)) (by decide +kernel)
  | 10, _ => exact gx_in (List.mem_of_getElem? (i := 173) (by decide +kernel)) (by decide +kernel)
  | 11, _ => exact gx_in (List.mem_of_getElem? (i := 175) (by decide +kernel)) (by decide +kernel)
  | 12, _ => exact gx_in (List.mem_of_getElem? (i := 177) (by decide +kernel)) (by decide +kernel)
  | 13, _ => exact gx_in (List.mem_of_getElem? (i := 179) (by decide +kernel)) (by decide +kernel)
  | 14, _ => exact gx_in (List.mem_of_getElem? (i := 181) (by decide +kernel)) (by decide +kernel)
  | 15, _ => exact gx_in (List.mem_of_getElem? (i := 183) (by decide +kernel)) (by decide +kernel)
  | 16, _ => exact gx_in (List.mem_of_getElem? (i := 185) (by decide +kernel)) (by decide +kernel)
  | j + 17, hj => exact absurd hj (by omega)
theorem iw_TX3 : ∀ w ∈ u_ws RX3 TX3 4, w ∈ gx_T := by
  intro w hw
  obtain ⟨j, hj, rfl⟩ := List.mem_map.mp hw
  have hj := List.mem_range.mp hj
  match j, hj with
  | 0, _ => exact gx_in (List.mem_of_getElem? (i := 261) (by decide +kernel)) (by decide +kernel)
  | 1, _ => exact gx_in (List.mem_of_getElem? (i := 263) (by decide +kernel)) (by decide +kernel)
  | 2, _ => exact gx_in (List.mem_of_getElem? (i := 265) (by decide +kernel)) (by decide +kernel)
  | 3, _ => exact gx_in (List.mem_of_getElem? (i := 267) (by decide +kernel)) (by decide +kernel)
  | j + 4, hj => exact absurd hj (by omega)
theorem iw_TX4 : ∀ w ∈ u_ws RX4 TX4 6, w ∈ gx_T := by
  intro w hw
  obtain ⟨j, hj, rfl⟩ := List.mem_map.mp hw
  have hj := List.mem_range.mp hj
  match j, hj with
  | 0, _ => exact gx_in (List.mem_of_getElem? (i := 203) (by decide +kernel)) (by decide +kernel)
  | 1, _ => exact gx_in (List.mem_of_getElem? (i := 205) (by decide +kernel)) (by decide +kernel)
  | 2, _ => exact gx_in (List.mem_of_getElem? (i := 207) (by decide +kernel)) (by decide +kernel)
  | 3, _ => exact gx_in (List.mem_of_getElem? (i := 209) (by decide +kernel)) (by decide +kernel)
  | 4, _ => exact gx_in (List.mem_of_getElem? (i := 211) (by decide +kernel)) (by decide +kernel)
  | 5, _ => exact gx_in (List.mem_of_getElem? (i := 213) (by decide +kernel)) (by decide +kernel)
  | j + 6, hj => exact absurd hj (by omega)
theorem iw_TX5 : ∀ w ∈ u_ws RX5 TX5 7, w ∈ gx_T := by
  intro w hw
  obtain ⟨j, hj, rfl⟩ := List.mem_map.mp hw
  have hj := List.mem_range.mp hj
  match j, hj with
  | 0, _ => exact gx_in (List.mem_of_getElem? (i := 231) (by decide +kernel)) (by decide +kernel)
  | 1, _ => exact gx_in (List.mem_of_getElem? (i := 233) (by decide +kernel)) (by decide +kernel)
  | 2, _ => exact gx_in (List.mem_of_getElem? (i := 235) (by decide +kernel)) (by decide +kernel)
  | 3, _ => exact gx_in (List.mem_of_getElem? (i := 237) (by decide +kernel)) (by decide +kernel)
  | 4, _ => exact gx_in (List.mem_of_getElem? (i := 239) (by decide +kernel)) (by decide +kernel)
  | 5, _ => exact gx_in (List.mem_of_getElem? (i := 241) (by decide +kernel)) (by decide +kernel)
  | 6, _ => exact gx_in (List.mem_of_getElem? (i := 243) (by decide +kernel)) (by decide +kernel)
  | j + 7, hj => exact absurd hj (by omega)
theorem iw_TX6 : ∀ w ∈ u_ws RX6 TX6 10, w ∈ gx_T := by
  intro w hw
  obtain ⟨j, hj, rfl⟩ := List.mem_map.mp hw
  have hj := List.mem_range.mp hj
  match j, hj with
  | 0, _ => exact gx_in (List.mem_of_getElem? (i := 281) (by decide +kernel)) (by decide +kernel)
  | 1, _ => exact gx_in (List.mem_of_getElem? (i := 283) (by decide +kernel)) (by decide +kernel)
  | 2, _ => exact gx_in (List.mem_of_getElem? (i := 285) (by decide +kernel)) (by decide +kernel)
  | 3, _ => exact gx_in (List.mem_of_getElem? (i := 287) (by decide +kernel)) (by decide +kernel)
  | 4, _ => exact gx_in (List.mem_of_getElem? (i := 289) (by decide +kernel)) (by decide +kernel)
  | 5, _ => exact gx_in (List.mem_of_getElem? (i := 291) (by decide +kernel)) (by decide +kernel)
  | 6, _ => exact gx_in (List.mem_of_getElem? (i := 293) (by decide +kernel)) (by decide +kernel)
  | 7, _ => exact gx_in (List.mem_of_getElem? (i := 295) (by decide +kernel)) (by decide +kernel)
  | 8, _ => exact gx_in (List.mem_of_getElem? (i := 297) (by decide +kernel)) (by decide +kernel)
  | 9, _ => exact gx_in (List.mem_of_getElem? (i := 299) (by decide +kernel)) (by decide +kernel)
  | j + 10, hj => exact absurd hj (by omega)
theorem iw_TX7 : ∀ w ∈ u_ws RX7 TX7 37, w ∈ gx_T := by
  intro w hw
  obtain ⟨j, hj, rfl⟩ := List.mem_map.mp hw
  have hj := List.mem_range.mp hj
  match j, hj with
  | 0, _ => exact gx_in (List.mem_of_getElem? (i := 967) (by decide +kernel)) (by decide +kernel)
  | 1, _ => exact gx_in (List.mem_of_getElem? (i := 969) (by decide +kernel)) (by decide +kernel)
  | 2, _ => exact gx_in (List.mem_of_getElem? (i := 971) (by decide +kernel)) (by decide +kernel)
  | 3, _ => exact gx_in (List.mem_of_getElem? (i := 973) (by decide +kernel)) (by decide +kernel)
  | 4, _ => exact gx_in (List.mem_of_getElem? (i := 975) (by decide +kernel)) (by decide +kernel)
  | 5, _ => exact gx_in (List.mem_of_getElem? (i := 977) (by decide +kernel)) (by decide +kernel)
  | 6, _ => exact gx_in (List.mem_of_getElem? (i := 979) (by decide +kernel)) (by decide +kernel)
  | 7, _ => exact gx_in (List.mem_of_getElem? (i := 981) (by decide +kernel)) (by decide +kernel)
  | 8, _ => exact gx_in (List.mem_of_getElem? (i := 983) (by decide +kernel)) (by decide +kernel)
  | 9, _ => exact gx_in (List.mem_of_getElem? (i := 985) (by decide +kernel)) (by decide +kernel)
  | 10, _ => exact gx_in (List.mem_of_getElem? (i := 987) (by decide +kernel)) (by decide +kernel)
  | 11, _ => exact gx_in (List.mem_of_getElem? (i := 989) (by decide +kernel)) (by decide +kernel)
  | 12, _ => exact gx_in (List.mem_of_getElem? (i := 991) (by decide +kernel)) (by decide +kernel)
  | 13, _ => exact gx_in (List.mem_of_getElem? (i := 993) (by decide +kernel)) (by decide +kernel)
  | 14, _ => exact gx_in (List.mem_of_getElem? (i := 995) (by decide +kernel)) (by decide +kernel)
  | 15, _ => exact gx_in (List.mem_of_getElem? (i := 997) (by decide +kernel)) (by decide +kernel)
  | 16, _ => exact gx_in (List.mem_of_getElem? (i := 999) (by decide +kernel)) (by decide +kernel)
  | 17, _ => exact gx_in (List.mem_of_getElem? (i := 1001) (by decide +kernel)) (by decide +kernel)
  | 18, _ => exact gx_in (List.mem_of_getElem? (i := 1003) (by decide +kernel)) (by decide +kernel)
  | 19, _ => exact gx_in (List.mem_of_getElem? (i := 1005) (by decide +kernel)) (by decide +kernel)
  | 20, _ => exact gx_in (List.mem_of_getElem? (i := 1007) (by decide +kernel)) (by decide +kernel)
  | 21, _ => exact gx_in (List.mem_of_getElem? (i := 1009) (by decide +kernel)) (by decide +kernel)
  | 22, _ => exact gx_in (List.mem_of_getElem? (i := 1011) (by decide +kernel)) (by decide +kernel)
  | 23, _ => exact gx_in (List.mem_of_getElem? (i := 1013) (by decide +kernel)) (by decide +kernel)
  | 24, _ => exact gx_in (List.mem_of_getElem? (i := 1015) (by decide +kernel)) (by decide +kernel)
  | 25, _ => exact gx_in (List.mem_of_getElem? (i := 1017) (by decide +kernel)) (by decide +kernel)
  | 26, _ => exact gx_in (List.mem_of_getElem? (i := 1019) (by decide +kernel)) (by decide +kernel)
  | 27, _ => exact gx_in (List.mem_of_getElem? (i := 1021) (by decide +kernel)) (by decide +kernel)
  | 28, _ => exact gx_in (List.mem_of_getElem? (i := 1023) (by decide +kernel)) (by decide +kernel)
  | 29, _ => exact gx_in (List.mem_of_getElem? (i := 1025) (by decide +kernel)) (by decide +kernel)
  | 30, _ => exact gx_in (List.mem_of_getElem? (i := 1027) (by decide +kernel)) (by decide +kernel)
  | 31, _ => exact gx_in (List.mem_of_getElem? (i := 1029) (by decide +kernel)) (by decide +kernel)
  | 32, _ => exact gx_in (List.mem_of_getElem? (i := 1031) (by decide +kernel)) (by decide +kernel)
  | 33, _ => exact gx_in (List.mem_of_getElem? (i := 1033) (by decide +kernel)) (by decide +kernel)
  | 34, _ => exact gx_in (List.mem_of_getElem? (i := 1035) (by decide +kernel)) (by decide +kernel)
  | 35, _ => exact gx_in (List.mem_of_getElem? (i := 1037) (by decide +kernel)) (by decide +kernel)
  | 36, _ => exact gx_in (List.mem_of_getElem? (i := 1039) (by decide +kernel)) (by decide +kernel)
  | j + 37, hj => exact absurd hj (by omega)
end
section
theorem wd_69 : Cond.initialized RX6 ∈ gx_T := gx_in (List.mem_of_getElem? (i := 69) (by decide +kernel)) (by decide +kernel)
theorem wd_135 : Cond.fieldLink RX6 133 "EachRoadOnce$Land" "roads" "I" ∈ gx_T := gx_in (List.mem_of_getElem? (i := 135) (by decide +kernel)) (by decide +kernel)
theorem wd_138 : Cond.fieldLink RX6 123 "EachRoadOnce$Land" "people" "I" ∈ gx_T := gx_in (List.mem_of_getElem? (i := 138) (by decide +kernel)) (by decide +kernel)
theorem wd_259 : Cond.fieldLink RX3 15 "EachRoadOnce$Shelf" "content" "I" ∈ gx_T := gx_in (List.mem_of_getElem? (i := 259) (by decide +kernel)) (by decide +kernel)
theorem wd_271 : Cond.fieldLink RX6 10 "EachRoadOnce" "now" "LEachRoadOnce$Land;" ∈ gx_T := gx_in (List.mem_of_getElem? (i := 271) (by decide +kernel)) (by decide +kernel)
theorem wd_279 : Cond.fieldLink RX6 49 "EachRoadOnce" "refusals" "[I" ∈ gx_T := gx_in (List.mem_of_getElem? (i := 279) (by decide +kernel)) (by decide +kernel)
theorem wd_309 : Cond.methodLink RX6 57 yX6_isBetween ∈ gx_T := gx_in (List.mem_of_getElem? (i := 309) (by decide +kernel)) (by decide +kernel)
theorem wd_310 : Cond.static yX6_isBetween ∈ gx_T := gx_in (List.mem_of_getElem? (i := 310) (by decide +kernel)) (by decide +kernel)
theorem wd_311 : Cond.code yX6_isBetween cX6_isBetween 3 (some .boolean) ∈ gx_T := gx_in (List.mem_of_getElem? (i := 311) (by decide +kernel)) (by decide +kernel)
theorem gS_RX6_57 : GoodIn gx_T (va_wsS RX6 57 yX6_isBetween (.code yX6_isBetween cX6_isBetween 3 (some .boolean) :: gx_T)) := gx_gS wd_309 wd_310 wd_69 wd_311
theorem dX6_isBetween_0 : decode cX6_isBetween 0 = .ok (.iload_n 0, 1) := by decide +kernel
theorem dX6_isBetween_1 : decode cX6_isBetween 1 = .ok (.iload_n 1, 1) := by decide +kernel
theorem dX6_isBetween_2 : decode cX6_isBetween 2 = .ok (.if_icmp .lt 12, 3) := by decide +kernel
theorem dX6_isBetween_5 : decode cX6_isBetween 5 = .ok (.iload_n 0, 1) := by decide +kernel
theorem dX6_isBetween_6 : decode cX6_isBetween 6 = .ok (.iload_n 2, 1) := by decide +kernel
theorem dX6_isBetween_7 : decode cX6_isBetween 7 = .ok (.if_icmp .gt 7, 3) := by decide +kernel
theorem dX6_isBetween_10 : decode cX6_isBetween 10 = .ok (.iconst 1, 1) := by decide +kernel
theorem dX6_isBetween_11 : decode cX6_isBetween 11 = .ok (.goto 4, 3) := by decide +kernel
theorem dX6_isBetween_14 : decode cX6_isBetween 14 = .ok (.iconst 0, 1) := by decide +kernel
theorem dX6_isBetween_15 : decode cX6_isBetween 15 = .ok (.ireturn, 1) := by decide +kernel
theorem dX6_isShelf_0 : decode cX6_isShelf 0 = .ok (.iload_n 0, 1) := by decide +kernel
theorem dX6_isShelf_1 : decode cX6_isShelf 1 = .ok (.iconst 0, 1) := by decide +kernel
theorem dX6_isShelf_2 : decode cX6_isShelf 2 = .ok (.bipush 7, 2) := by decide +kernel
theorem dX6_isShelf_4 : decode cX6_isShelf 4 = .ok (.invokestatic 57, 3) := by decide +kernel
theorem dX6_isShelf_7 : decode cX6_isShelf 7 = .ok (.ireturn, 1) := by decide +kernel
theorem dX6_isPlace_0 : decode cX6_isPlace 0 = .ok (.iload_n 0, 1) := by decide +kernel
theorem dX6_isPlace_1 : decode cX6_isPlace 1 = .ok (.iconst 0, 1) := by decide +kernel
theorem dX6_isPlace_2 : decode cX6_isPlace 2 = .ok (.bipush 7, 2) := by decide +kernel
theorem dX6_isPlace_4 : decode cX6_isPlace 4 = .ok (.invokestatic 57, 3) := by decide +kernel
theorem dX6_isPlace_7 : decode cX6_isPlace 7 = .ok (.ireturn, 1) := by decide +kernel
theorem dX6_isOne_0 : decode cX6_isOne 0 = .ok (.iload_n 1, 1) := by decide +kernel
theorem dX6_isOne_1 : decode cX6_isOne 1 = .ok (.iconst 0, 1) := by decide +kernel
theorem dX6_isOne_2 : decode cX6_isOne 2 = .ok (.aload_n 0, 1) := by decide +kernel
theorem dX6_isOne_3 : decode cX6_isOne 3 = .ok (.getfield 10, 3) := by decide +kernel
theorem dX6_isOne_6 : decode cX6_isOne 6 = .ok (.getfield 123, 3) := by decide +kernel
theorem dX6_isOne_9 : decode cX6_isOne 9 = .ok (.iconst 1, 1) := by decide +kernel
theorem dX6_isOne_10 : decode cX6_isOne 10 = .ok (.isub, 1) := by decide +kernel
theorem dX6_isOne_11 : decode cX6_isOne 11 = .ok (.invokestatic 57, 3) := by decide +kernel
theorem dX6_isOne_14 : decode cX6_isOne 14 = .ok (.ireturn, 1) := by decide +kernel
theorem dX6_isRoad_0 : decode cX6_isRoad 0 = .ok (.iload_n 1, 1) := by decide +kernel
theorem dX6_isRoad_1 : decode cX6_isRoad 1 = .ok (.iconst 0, 1) := by decide +kernel
theorem dX6_isRoad_2 : decode cX6_isRoad 2 = .ok (.aload_n 0, 1) := by decide +kernel
theorem dX6_isRoad_3 : decode cX6_isRoad 3 = .ok (.getfield 10, 3) := by decide +kernel
theorem dX6_isRoad_6 : decode cX6_isRoad 6 = .ok (.getfield 133, 3) := by decide +kernel
theorem dX6_isRoad_9 : decode cX6_isRoad 9 = .ok (.iconst 1, 1) := by decide +kernel
theorem dX6_isRoad_10 : decode cX6_isRoad 10 = .ok (.isub, 1) := by decide +kernel
theorem dX6_isRoad_11 : decode cX6_isRoad 11 = .ok (.invokestatic 57, 3) := by decide +kernel
theorem dX6_isRoad_14 : decode cX6_isRoad 14 = .ok (.ireturn, 1) := by decide +kernel
theorem dX6_refuse_0 : decode cX6_refuse 0 = .ok (.iload_n 1, 1) := by decide +kernel
theorem dX6_refuse_1 : decode cX6_refuse 1 = .ok (.bipush (-6), 2) := by decide +kernel
theorem dX6_refuse_3 : decode cX6_refuse 3 = .ok (.bipush (-2), 2) := by decide +kernel
theorem dX6_refuse_5 : decode cX6_refuse 5 = .ok (.invokestatic 57, 3) := by decide +kernel
theorem dX6_refuse_8 : decode cX6_refuse 8 = .ok (.ifCond .eq 16, 3) := by decide +kernel
theorem dX6_refuse_11 : decode cX6_refuse 11 = .ok (.aload_n 0, 1) := by decide +kernel
theorem dX6_refuse_12 : decode cX6_refuse 12 = .ok (.getfield 49, 3) := by decide +kernel
theorem dX6_refuse_15 : decode cX6_refuse 15 = .ok (.bipush (-2), 2) := by decide +kernel
theorem dX6_refuse_17 : decode cX6_refuse 17 = .ok (.iload_n 1, 1) := by decide +kernel
theorem dX6_refuse_18 : decode cX6_refuse 18 = .ok (.isub, 1) := by decide +kernel
theorem dX6_refuse_19 : decode cX6_refuse 19 = .ok (.dup2, 1) := by decide +kernel
theorem dX6_refuse_20 : decode cX6_refuse 20 = .ok (.iaload, 1) := by decide +kernel
theorem dX6_refuse_21 : decode cX6_refuse 21 = .ok (.iconst 1, 1) := by decide +kernel
theorem dX6_refuse_22 : decode cX6_refuse 22 = .ok (.iadd, 1) := by decide +kernel
theorem dX6_refuse_23 : decode cX6_refuse 23 = .ok (.iastore, 1) := by decide +kernel
theorem dX6_refuse_24 : decode cX6_refuse 24 = .ok (.iload_n 1, 1) := by decide +kernel
theorem dX6_refuse_25 : decode cX6_refuse 25 = .ok (.ireturn, 1) := by decide +kernel
theorem dX3_isEmpty_0 : decode cX3_isEmpty 0 = .ok (.aload_n 0, 1) := by decide +kernel
theorem dX3_isEmpty_1 : decode cX3_isEmpty 1 = .ok (.getfield 15, 3) := by decide +kernel
theorem dX3_isEmpty_4 : decode cX3_isEmpty 4 = .ok (.iconst (-1), 1) := by decide +kernel
theorem dX3_isEmpty_5 : decode cX3_isEmpty 5 = .ok (.if_icmp .ne 7, 3) := by decide +kernel
theorem dX3_isEmpty_8 : decode cX3_isEmpty 8 = .ok (.iconst 1, 1) := by decide +kernel
theorem dX3_isEmpty_9 : decode cX3_isEmpty 9 = .ok (.goto 4, 3) := by decide +kernel
theorem dX3_isEmpty_13 : decode cX3_isEmpty 13 = .ok (.ireturn, 1) := by decide +kernel
theorem dX3_isRow_0 : decode cX3_isRow 0 = .ok (.aload_n 0, 1) := by decide +kernel
theorem dX3_isRow_1 : decode cX3_isRow 1 = .ok (.getfield 15, 3) := by decide +kernel
theorem dX3_isRow_4 : decode cX3_isRow 4 = .ok (.ifCond .lt 15, 3) := by decide +kernel
theorem dX3_isRow_19 : decode cX3_isRow 19 = .ok (.iconst 0, 1) := by decide +kernel
theorem dX3_isRow_20 : decode cX3_isRow 20 = .ok (.ireturn, 1) := by decide +kernel
theorem dX3_isRule_0 : decode cX3_isRule 0 = .ok (.aload_n 0, 1) := by decide +kernel
theorem dX3_isRule_1 : decode cX3_isRule 1 = .ok (.getfield 15, 3) := by decide +kernel
theorem dX3_isRule_4 : decode cX3_isRule 4 = .ok (.bipush 10, 2) := by decide +kernel
theorem dX3_isRule_6 : decode cX3_isRule 6 = .ok (.if_icmp .lt 7, 3) := by decide +kernel
theorem dX3_isRule_13 : decode cX3_isRule 13 = .ok (.iconst 0, 1) := by decide +kernel
theorem dX3_isRule_14 : decode cX3_isRule 14 = .ok (.ireturn, 1) := by decide +kernel
set_option maxHeartbeats 4000000 in
set_option maxRecDepth 100000 in
theorem k_isBetween (l : Launch) (D : va_G) (k : Nat → ClassId) (v : Int32) (lo : Int32) (hi : Int32) (sz : Nat) : Met l yX6_isBetween (.code yX6_isBetween cX6_isBetween 3 (some .boolean) :: gx_T) ({ frames := 0, cells := 0, slots := 0, locals := 0 }) (gx_Pre D k [.int v, .int lo, .int hi] ([]) sz) (gx_Pi (fun r => r = 1 ∧ gx_b v lo hi = true ∨ r = 0 ∧ gx_b v lo hi = false)) 0 0 gx_No := by
  refine gx_metP (by decide) (Nat.le_of_ble_eq_true rfl) ?_
  intro p e s m below meth c ls C hP hD hK hS hl
  obtain ⟨hx, hb, hr, hml, hown, hT, hlk, hin⟩ := id C
  have hown : s.vm.findClass RX6 = some m.cls := hown
  have hl : lv_has ls 3 [(0, .int v), (1, .int lo), (2, .int hi)] := hl
  refine lv_iload_n hx hb dX6_isBetween_0 rfl (lv_at hl 0 rfl) ?_
  refine lv_iload_n hx hb dX6_isBetween_1 rfl (lv_at hl 1 rfl) ?_
  refine lv_icmp_lt (tgt := 14) hx hb dX6_isBetween_2 (by decide) (fun c_1 => ?_) (fun c_1 => ?_)
  · refine lv_iconst (v := 0) hx hb dX6_isBetween_14 (by decide) ?_
    exact gx_retPZ C hS rfl (Or.inr ⟨rfl, gx_bf1 c_1⟩) dX6_isBetween_15
  · refine lv_iload_n hx hb dX6_isBetween_5 rfl (lv_at hl 0 rfl) ?_
    refine lv_iload_n hx hb dX6_isBetween_6 rfl (lv_at hl 2 rfl) ?_
    refine lv_icmp_gt (tgt := 14) hx hb dX6_isBetween_7 (by decide) (fun c_2 => ?_) (fun c_2 => ?_)
    · refine lv_iconst (v := 0) hx hb dX6_isBetween_14 (by decide) ?_
      exact gx_retPZ C hS rfl (Or.inr ⟨rfl, gx_bf2 c_2⟩) dX6_isBetween_15
    · refine lv_iconst (v := 1) hx hb dX6_isBetween_10 (by decide) ?_
      refine lv_goto (tgt := 15) hx hb dX6_isBetween_11 (by decide) ?_
      exact gx_retPZ C hS rfl (Or.inl ⟨rfl, gx_bt c_1 c_2⟩) dX6_isBetween_15
set_option maxHeartbeats 4000000 in
set_option maxRecDepth 100000 in
theorem k_isShelf (l : Launch) (D : va_G) (k : Nat → ClassId) (v : Int32) (sz : Nat) : Met l yX6_isShelf (.code yX6_isShelf cX6_isShelf 1 (some .boolean) :: gx_T) ({ frames := 1, cells := 0, slots := 0, locals := 22 }) (gx_Pre D k [.int v] ([]) sz) (gx_Pi (fun r => r = 1 ∧ gx_b v 0 7 = true ∨ r = 0 ∧ gx_b v 0 7 = false)) 0 0 gx_No := by
  refine gx_metP (by decide) (Nat.le_of_ble_eq_true rfl) ?_
  intro p e s m below meth c ls C hP hD hK hS hl
  obtain ⟨hx, hb, hr, hml, hown, hT, hlk, hin⟩ := id C
  have hown : s.vm.findClass RX6 = some m.cls := hown
  have hl : lv_has ls 1 [(0, .int v)] := hl
  refine lv_iload_n hx hb dX6_isShelf_0 rfl (lv_at hl 0 rfl) ?_
  refine lv_iconst (v := 0) hx hb dX6_isShelf_1 (by decide) ?_
  refine lv_bipush (v := 7) hx hb dX6_isShelf_2 (by decide) ?_
  refine gx_pi hP hS (gx_runS (na := 3) (As := [.int v, .int 0, .int 7]) (rest := []) C hl.1 hK (gx_subP (wc := ([] : va_W)) hP [] rfl) ((hD.sub (ws' := ([] : va_W)) [] (by decide) rfl).weaken (fun _ _ _ _ => trivial)) (k_isBetween l D k v 0 7 _) gS_RX6_57 (by decide +kernel) rfl rfl ⟨Nat.le_of_ble_eq_true rfl, Nat.le_of_ble_eq_true rfl⟩ rfl rfl (Nat.le_of_ble_eq_true rfl) dX6_isShelf_4 ⟨Nat.le_of_ble_eq_true rfl, Nat.le_of_ble_eq_true rfl⟩) (fun r_2 H locs pc_1 hP hS => ?_)
  have oc_1 : r_2 = 1 ∧ gx_b v 0 7 = true ∨ r_2 = 0 ∧ gx_b v 0 7 = false := pc_1
  clear pc_1
  rcases oc_1 with ⟨rfl, c_1⟩ | ⟨rfl, c_1⟩
  · exact gx_retPZ C hS rfl (Or.inl ⟨rfl, c_1⟩) dX6_isShelf_7
  · exact gx_retPZ C hS rfl (Or.inr ⟨rfl, c_1⟩) dX6_isShelf_7
set_option maxHeartbeats 4000000 in
set_option maxRecDepth 100000 in
theorem k_isPlace (l : Launch) (D : va_G) (k : Nat → ClassId) (v : Int32) (sz : Nat) : Met l yX6_isPlace (.code yX6_isPlace cX6_isPlace 1 (some .boolean) :: gx_T) ({ frames := 1, cells := 0, slots := 0, locals := 22 }) (gx_Pre D k [.int v] ([]) sz) (gx_Pi (fun r => r = 1 ∧ gx_b v 0 7 = true ∨ r = 0 ∧ gx_b v 0 7 = false)) 0 0 gx_No := by
  refine gx_metP (by decide) (Nat.le_of_ble_eq_true rfl) ?_
  intro p e s m below meth c ls C hP hD hK hS hl
  obtain ⟨hx, hb, hr, hml, hown, hT, hlk, hin⟩ := id C
  have hown : s.vm.findClass RX6 = some m.cls := hown
  have hl : lv_has ls 1 [(0, .int v)] := hl
  refine lv_iload_n hx hb dX6_isPlace_0 rfl (lv_at hl 0 rfl) ?_
  refine lv_iconst (v := 0) hx hb dX6_isPlace_1 (by decide) ?_
  refine lv_bipush (v := 7) hx hb dX6_isPlace_2 (by decide) ?_
  refine gx_pi hP hS (gx_runS (na := 3) (As := [.int v, .int 0, .int 7]) (rest := []) C hl.1 hK (gx_subP (wc := ([] : va_W)) hP [] rfl) ((hD.sub (ws' := ([] : va_W)) [] (by decide) rfl).weaken (fun _ _ _ _ => trivial)) (k_isBetween l D k v 0 7 _) gS_RX6_57 (by decide +kernel) rfl rfl ⟨Nat.le_of_ble_eq_true rfl, Nat.le_of_ble_eq_true rfl⟩ rfl rfl (Nat.le_of_ble_eq_true rfl) dX6_isPlace_4 ⟨Nat.le_of_ble_eq_true rfl, Nat.le_of_ble_eq_true rfl⟩) (fun r_2 H locs pc_1 hP hS => ?_)
  have oc_1 : r_2 = 1 ∧ gx_b v 0 7 = true ∨ r_2 = 0 ∧ gx_b v 0 7 = false := pc_1
  clear pc_1
  rcases oc_1 with ⟨rfl, c_1⟩ | ⟨rfl, c_1⟩
  · exact gx_retPZ C hS rfl (Or.inl ⟨rfl, c_1⟩) dX6_isPlace_7
  · exact gx_retPZ C hS rfl (Or.inr ⟨rfl, c_1⟩) dX6_isPlace_7
set_option maxHeartbeats 4000000 in
set_option maxRecDepth 100000 in
theorem k_isOne (l : Launch) (D : va_G) (k : Nat → ClassId) (ad : Nat → Nat) (v : Int32) (sz : Nat) : Met l yX6_isOne (.code yX6_isOne cX6_isOne 2 (some .boolean) :: gx_T) ({ frames := 1, cells := 0, slots := 0, locals := 22 }) (gx_Pre D k [.ref (ad 0), .int v] ([((ad 0), .inr (4, [.ref (ad 1), .ref (ad 2), .ref (ad 3), .ref (ad 4), .ref (ad 5), .ref (ad 6), .ref (ad 7), .ref (ad 8), .ref (ad 9), .int 0])), ((ad 1), .inr (0, [.ref (ad 10), .ref (ad 11), .ref (ad 12), .ref (ad 13), .ref (ad 14), .ref (ad 15), .ref (ad 16), .ref (ad 17), .ref (ad 18), .int 0, .int 0, .int 0, .int 0, .int 1, .int 0, .int 0, .int 0]))]) sz) (gx_Pi (fun r => r = 0)) 0 0 gx_No := by
  refine gx_metP (by decide) (Nat.le_of_ble_eq_true rfl) ?_
  intro p e s m below meth c ls C hP hD hK hS hl
  obtain ⟨hx, hb, hr, hml, hown, hT, hlk, hin⟩ := id C
  have hown : s.vm.findClass RX6 = some m.cls := hown
  have hl : lv_has ls 2 [(0, .ref (ad 0)), (1, .int v)] := hl
  refine lv_iload_n hx hb dX6_isOne_0 rfl (lv_at hl 1 rfl) ?_
  refine lv_iconst (v := 0) hx hb dX6_isOne_1 (by decide) ?_
  refine lv_aload_n hx hb dX6_isOne_2 rfl (lv_at hl 0 rfl) ?_
  refine va_get (D := D) (ci := 4) (v := .ref (ad 1)) (C := RX6) (T := TX6) (N := 10) hx hb hT iw_TX6 hown hK.1 hP 0 rfl rfl 0 (by decide) (hT _ wd_271) (fun _ h9 => h9) rfl dX6_isOne_3 ?_
  refine va_get (D := D) (ci := 0) (v := .int 0) (C := RX1) (T := TX1) (N := 17) hx hb hT iw_TX1 hown hK.1 hP 1 rfl rfl 10 (by decide) (hT _ wd_138) (fun _ h9 => h9) rfl dX6_isOne_6 ?_
  refine lv_iconst (v := 1) hx hb dX6_isOne_9 (by decide) ?_
  refine lv_isub hx hb dX6_isOne_10 ?_
  refine gx_cst (v := (-1)) (by decide) ?_
  refine gx_pi hP hS (gx_runS (na := 3) (As := [.int v, .int 0, .int (-1)]) (rest := []) C hl.1 hK (gx_subP (wc := ([] : va_W)) hP [] rfl) ((hD.sub (ws' := ([] : va_W)) [] (by decide) rfl).weaken (fun _ _ _ _ => trivial)) (k_isBetween l D k v 0 (-1) _) gS_RX6_57 (by decide +kernel) rfl rfl ⟨Nat.le_of_ble_eq_true rfl, Nat.le_of_ble_eq_true rfl⟩ rfl rfl (Nat.le_of_ble_eq_true rfl) dX6_isOne_11 ⟨Nat.le_of_ble_eq_true rfl, Nat.le_of_ble_eq_true rfl⟩) (fun r_2 H locs pc_1 hP hS => ?_)
  have oc_1 : r_2 = 1 ∧ gx_b v 0 (-1) = true ∨ r_2 = 0 ∧ gx_b v 0 (-1) = false := pc_1
  clear pc_1
  rcases oc_1 with ⟨rfl, c_1⟩ | ⟨rfl, c_1⟩
  · exact absurd c_1 (by first | decide | (rw [gx_bn]; decide) | simp [gx_bn])
  · exact gx_retPZ C hS rfl (rfl) dX6_isOne_14
set_option maxHeartbeats 4000000 in
set_option maxRecDepth 100000 in
theorem k_isRoad (l : Launch) (D : va_G) (k : Nat → ClassId) (ad : Nat → Nat) (v : Int32) (sz : Nat) : Met l yX6_isRoad (.code yX6_isRoad cX6_isRoad 2 (some .boolean) :: gx_T) ({ frames := 1, cells := 0, slots := 0, locals := 22 }) (gx_Pre D k [.ref (ad 0), .int v] ([((ad 0), .inr (4, [.ref (ad 1), .ref (ad 2), .ref (ad 3), .ref (ad 4), .ref (ad 5), .ref (ad 6), .ref (ad 7), .ref (ad 8), .ref (ad 9), .int 0])), ((ad 1), .inr (0, [.ref (ad 10), .ref (ad 11), .ref (ad 12), .ref (ad 13), .ref (ad 14), .ref (ad 15), .ref (ad 16), .ref (ad 17), .ref (ad 18), .int 0, .int 0, .int 0, .int 0, .int 1, .int 0, .int 0, .int 0]))]) sz) (gx_Pi (fun r => r = 0)) 0 0 gx_No := by
  refine gx_metP (by decide) (Nat.le_of_ble_eq_true rfl) ?_
  intro p e s m below meth c ls C hP hD hK hS hl
  obtain ⟨hx, hb, hr, hml, hown, hT, hlk, hin⟩ := id C
  have hown : s.vm.findClass RX6 = some m.cls := hown
  have hl : lv_has ls 2 [(0, .ref (ad 0)), (1, .int v)] := hl
  refine lv_iload_n hx hb dX6_isRoad_0 rfl (lv_at hl 1 rfl) ?_
  refine lv_iconst (v := 0) hx hb dX6_isRoad_1 (by decide) ?_
  refine lv_aload_n hx hb dX6_isRoad_2 rfl (lv_at hl 0 rfl) ?_
  refine va_get (D := D) (ci := 4) (v := .ref (ad 1)) (C := RX6) (T := TX6) (N := 10) hx hb hT iw_TX6 hown hK.1 hP 0 rfl rfl 0 (by decide) (hT _ wd_271) (fun _ h9 => h9) rfl dX6_isRoad_3 ?_
  refine va_get (D := D) (ci := 0) (v := .int 0) (C := RX1) (T := TX1) (N := 17) hx hb hT iw_TX1 hown hK.1 hP 1 rfl rfl 9 (by decide) (hT _ wd_135) (fun _ h9 => h9) rfl dX6_isRoad_6 ?_
  refine lv_iconst (v := 1) hx hb dX6_isRoad_9 (by decide) ?_
  refine lv_isub hx hb dX6_isRoad_10 ?_
  refine gx_cst (v := (-1)) (by decide) ?_
  refine gx_pi hP hS (gx_runS (na := 3) (As := [.int v, .int 0, .int (-1)]) (rest := []) C hl.1 hK (gx_subP (wc := ([] : va_W)) hP [] rfl) ((hD.sub (ws' := ([] : va_W)) [] (by decide) rfl).weaken (fun _ _ _ _ => trivial)) (k_isBetween l D k v 0 (-1) _) gS_RX6_57 (by decide +kernel) rfl rfl ⟨Nat.le_of_ble_eq_true rfl, Nat.le_of_ble_eq_true rfl⟩ rfl rfl (Nat.le_of_ble_eq_true rfl) dX6_isRoad_11 ⟨Nat.le_of_ble_eq_true rfl, Nat.le_of_ble_eq_true rfl⟩) (fun r_2 H locs pc_1 hP hS => ?_)
  have oc_1 : r_2 = 1 ∧ gx_b v 0 (-1) = true ∨ r_2 = 0 ∧ gx_b v 0 (-1) = false := pc_1
  clear pc_1
  rcases oc_1 with ⟨rfl, c_1⟩ | ⟨rfl, c_1⟩
  · exact absurd c_1 (by first | decide | (rw [gx_bn]; decide) | simp [gx_bn])
  · exact gx_retPZ C hS rfl (rfl) dX6_isRoad_14
set_option maxHeartbeats 4000000 in
set_option maxRecDepth 100000 in
theorem k_refuse2 (l : Launch) (D : va_G) (k : Nat → ClassId) (ad : Nat → Nat) (sz : Nat) : Met l yX6_refuse (.code yX6_refuse cX6_refuse 2 (some .int) :: gx_T) ({ frames := 1, cells := 0, slots := 0, locals := 22 }) (gx_Pre D k [.ref (ad 0), .int (-2)] ([((ad 0), .inr (4, [.ref (ad 1), .ref (ad 2), .ref (ad 3), .ref (ad 4), .ref (ad 5), .ref (ad 6), .ref (ad 7), .ref (ad 8), .ref (ad 9), .int 0])), ((ad 9), .inl (k 0, 5, .inl (fun _ => 0)))]) sz) (gx_Qi D (fun (r : Int32) (u : Unit) => r = -2) (fun (u : Unit) => ([] : va_W)) (va_A ([((ad 0), .inr (4, [.ref (ad 1), .ref (ad 2), .ref (ad 3), .ref (ad 4), .ref (ad 5), .ref (ad 6), .ref (ad 7), .ref (ad 8), .ref (ad 9), .int 0])), ((ad 9), .inl (k 0, 5, .inl (fun _ => 0)))]) sz)) 0 0 (va_A ([((ad 0), .inr (4, [.ref (ad 1), .ref (ad 2), .ref (ad 3), .ref (ad 4), .ref (ad 5), .ref (ad 6), .ref (ad 7), .ref (ad 8), .ref (ad 9), .int 0])), ((ad 9), .inl (k 0, 5, .inl (fun _ => 0)))]) sz) := by
  refine gx_metE (Qc := fun A => gx_Qi D (fun (r : Int32) (u : Unit) => r = -2) (fun (u : Unit) => ([] : va_W)) A) (by decide) (Nat.le_of_ble_eq_true rfl) ?_
  intro p e s m below meth c A ls C hA hP hD hK hS hl
  obtain ⟨hx, hb, hr, hml, hown, hT, hlk, hin⟩ := id C
  have hown : s.vm.findClass RX6 = some m.cls := hown
  have hl : lv_has ls 2 [(0, .ref (ad 0)), (1, .int (-2))] := hl
  refine lv_iload_n hx hb dX6_refuse_0 rfl (lv_at hl 1 rfl) ?_
  refine lv_bipush (v := (-6)) hx hb dX6_refuse_1 (by decide) ?_
  refine lv_bipush (v := (-2)) hx hb dX6_refuse_3 (by decide) ?_
  refine gx_pi hP hS (gx_runS (na := 3) (As := [.int (-2), .int (-6), .int (-2)]) (rest := []) C hl.1 hK (gx_subP (wc := ([] : va_W)) hP [] rfl) ((hD.sub (ws' := ([] : va_W)) [] (by decide) rfl).weaken (fun _ _ _ _ => trivial)) (k_isBetween l D k (-2) (-6) (-2) _) gS_RX6_57 (by decide +kernel) rfl rfl ⟨Nat.le_of_ble_eq_true rfl, Nat.le_of_ble_eq_true rfl⟩ rfl rfl (Nat.le_of_ble_eq_true rfl) dX6_refuse_5 ⟨Nat.le_of_ble_eq_true rfl, Nat.le_of_ble_eq_true rfl⟩) (fun r_2 H locs pc_1 hP hS => ?_)
  have oc_1 : r_2 = 1 ∧ gx_b (-2) (-6) (-2) = true ∨ r_2 = 0 ∧ gx_b (-2) (-6) (-2) = false := pc_1
  clear pc_1
  rcases oc_1 with ⟨rfl, c_1⟩ | ⟨rfl, c_1⟩
  · refine lv_if_eq (tgt := 24) hx hb dX6_refuse_8 (by decide) (fun c_3 => absurd c_3 (by decide)) (fun c_3 => ?_)
    refine lv_aload_n hx hb dX6_refuse_11 rfl (lv_at hl 0 rfl) ?_
    refine va_get (D := D) (ci := 4) (v := .ref (ad 9)) (C := RX6) (T := TX6) (N := 10) hx hb hT iw_TX6 hown hK.1 hP 0 rfl rfl 8 (by decide) (hT _ wd_279) (fun _ h9 => h9) rfl dX6_refuse_12 ?_
    refine lv_bipush (v := (-2)) hx hb dX6_refuse_15 (by decide) ?_
    refine lv_iload_n hx hb dX6_refuse_17 rfl (lv_at hl 1 rfl) ?_
    refine lv_isub hx hb dX6_refuse_18 ?_
    refine gx_cst (v := 0) (by decide) ?_
    refine lv_dup2_11 hx hb dX6_refuse_19 rfl rfl ?_
    refine va_iald hx hb hK.1 hP 1 0 rfl rfl (gx_vin rfl) dX6_refuse_20 ?_
    refine gx_cst (v := 0) (rfl) ?_
    refine lv_iconst (v := 1) hx hb dX6_refuse_21 (by decide) ?_
    refine lv_iadd hx hb dX6_refuse_22 ?_
    refine gx_cst (v := 1) (by decide) ?_
    refine va_iast hx hb hK.1 hP hD hS 1 0 rfl rfl (gx_vin rfl) dX6_refuse_23 (fun H locs hP hD hS => ?_)
    obtain ⟨f_4, ef_4⟩ : ∃ f9, f9 = upd ((fun _ => 0) : Nat → Int32) (0 : Int32).toNatClampNeg (1 : Int32) := ⟨_, rfl⟩
    have hP : va_P D gx_cl [((ad 0), .inr (4, [.ref (ad 1), .ref (ad 2), .ref (ad 3), .ref (ad 4), .ref (ad 5), .ref (ad 6), .ref (ad 7), .ref (ad 8), .ref (ad 9), .int 0])), ((ad 9), .inl (k 0, 5, .inl f_4))] H := by subst ef_4; exact hP
    have hD : va_D A [((ad 0), .inr (4, [.ref (ad 1), .ref (ad 2), .ref (ad 3), .ref (ad 4), .ref (ad 5), .ref (ad 6), .ref (ad 7), .ref (ad 8), .ref (ad 9), .int 0])), ((ad 9), .inl (k 0, 5, .inl f_4))] := by subst ef_4; exact hD
    refine lv_iload_n hx hb dX6_refuse_24 rfl (lv_at hl 1 rfl) ?_
    exact gx_retI C (u := ()) gx_nil gx_noneD hS (rfl) dX6_refuse_25
  · exact absurd c_1 (by first | decide | (rw [gx_bn]; decide) | simp [gx_bn])
set_option maxHeartbeats 4000000 in
set_option maxRecDepth 100000 in
theorem k_refuse4 (l : Launch) (D : va_G) (k : Nat → ClassId) (ad : Nat → Nat) (sz : Nat) : Met l yX6_refuse (.code yX6_refuse cX6_refuse 2 (some .int) :: gx_T) ({ frames := 1, cells := 0, slots := 0, locals := 22 }) (gx_Pre D k [.ref (ad 0), .int (-4)] ([((ad 0), .inr (4, [.ref (ad 1), .ref (ad 2), .ref (ad 3), .ref (ad 4), .ref (ad 5), .ref (ad 6), .ref (ad 7), .ref (ad 8), .ref (ad 9), .int 0])), ((ad 9), .inl (k 0, 5, .inl (fun _ => 0)))]) sz) (gx_Qi D (fun (r : Int32) (u : Unit) => r = -4) (fun (u : Unit) => ([] : va_W)) (va_A ([((ad 0), .inr (4, [.ref (ad 1), .ref (ad 2), .ref (ad 3), .ref (ad 4), .ref (ad 5), .ref (ad 6), .ref (ad 7), .ref (ad 8), .ref (ad 9), .int 0])), ((ad 9), .inl (k 0, 5, .inl (fun _ => 0)))]) sz)) 0 0 (va_A ([((ad 0), .inr (4, [.ref (ad 1), .ref (ad 2), .ref (ad 3), .ref (ad 4), .ref (ad 5), .ref (ad 6), .ref (ad 7), .ref (ad 8), .ref (ad 9), .int 0])), ((ad 9), .inl (k 0, 5, .inl (fun _ => 0)))]) sz) := by
  refine gx_metE (Qc := fun A => gx_Qi D (fun (r : Int32) (u : Unit) => r = -4) (fun (u : Unit) => ([] : va_W)) A) (by decide) (Nat.le_of_ble_eq_true rfl) ?_
  intro p e s m below meth c A ls C hA hP hD hK hS hl
  obtain ⟨hx, hb, hr, hml, hown, hT, hlk, hin⟩ := id C
  have hown : s.vm.findClass RX6 = some m.cls := hown
  have hl : lv_has ls 2 [(0, .ref (ad 0)), (1, .int (-4))] := hl
  refine lv_iload_n hx hb dX6_refuse_0 rfl (lv_at hl 1 rfl) ?_
  refine lv_bipush (v := (-6)) hx hb dX6_refuse_1 (by decide) ?_
  refine lv_bipush (v := (-2)) hx hb dX6_refuse_3 (by decide) ?_
  refine gx_pi hP hS (gx_runS (na := 3) (As := [.int (-4), .int (-6), .int (-2)]) (rest := []) C hl.1 hK (gx_subP (wc := ([] : va_W)) hP [] rfl) ((hD.sub (ws' := ([] : va_W)) [] (by decide) rfl).weaken (fun _ _ _ _ => trivial)) (k_isBetween l D k (-4) (-6) (-2) _) gS_RX6_57 (by decide +kernel) rfl rfl ⟨Nat.le_of_ble_eq_true rfl, Nat.le_of_ble_eq_true rfl⟩ rfl rfl (Nat.le_of_ble_eq_true rfl) dX6_refuse_5 ⟨Nat.le_of_ble_eq_true rfl, Nat.le_of_ble_eq_true rfl⟩) (fun r_2 H locs pc_1 hP hS => ?_)
  have oc_1 : r_2 = 1 ∧ gx_b (-4) (-6) (-2) = true ∨ r_2 = 0 ∧ gx_b (-4) (-6) (-2) = false := pc_1
  clear pc_1
  rcases oc_1 with ⟨rfl, c_1⟩ | ⟨rfl, c_1⟩
  · refine lv_if_eq (tgt := 24) hx hb dX6_refuse_8 (by decide) (fun c_3 => absurd c_3 (by decide)) (fun c_3 => ?_)
    refine lv_aload_n hx hb dX6_refuse_11 rfl (lv_at hl 0 rfl) ?_
    refine va_get (D := D) (ci := 4) (v := .ref (ad 9)) (C := RX6) (T := TX6) (N := 10) hx hb hT iw_TX6 hown hK.1 hP 0 rfl rfl 8 (by decide) (hT _ wd_279) (fun _ h9 => h9) rfl dX6_refuse_12 ?_
    refine lv_bipush (v := (-2)) hx hb dX6_refuse_15 (by decide) ?_
    refine lv_iload_n hx hb dX6_refuse_17 rfl (lv_at hl 1 rfl) ?_
    refine lv_isub hx hb dX6_refuse_18 ?_
    refine gx_cst (v := 2) (by decide) ?_
    refine lv_dup2_11 hx hb dX6_refuse_19 rfl rfl ?_
    refine va_iald hx hb hK.1 hP 1 0 rfl rfl (gx_vin rfl) dX6_refuse_20 ?_
    refine gx_cst (v := 0) (rfl) ?_
    refine lv_iconst (v := 1) hx hb dX6_refuse_21 (by decide) ?_
    refine lv_iadd hx hb dX6_refuse_22 ?_
    refine gx_cst (v := 1) (by decide) ?_
    refine va_iast hx hb hK.1 hP hD hS 1 0 rfl rfl (gx_vin rfl) dX6_refuse_23 (fun H locs hP hD hS => ?_)
    obtain ⟨f_4, ef_4⟩ : ∃ f9, f9 = upd ((fun _ => 0) : Nat → Int32) (2 : Int32).toNatClampNeg (1 : Int32) := ⟨_, rfl⟩
    have hP : va_P D gx_cl [((ad 0), .inr (4, [.ref (ad 1), .ref (ad 2), .ref (ad 3), .ref (ad 4), .ref (ad 5), .ref (ad 6), .ref (ad 7), .ref (ad 8), .ref (ad 9), .int 0])), ((ad 9), .inl (k 0, 5, .inl f_4))] H := by subst ef_4; exact hP
    have hD : va_D A [((ad 0), .inr (4, [.ref (ad 1), .ref (ad 2), .ref (ad 3), .ref (ad 4), .ref (ad 5), .ref (ad 6), .ref (ad 7), .ref (ad 8), .ref (ad 9), .int 0])), ((ad 9), .inl (k 0, 5, .inl f_4))] := by subst ef_4; exact hD
    refine lv_iload_n hx hb dX6_refuse_24 rfl (lv_at hl 1 rfl) ?_
    exact gx_retI C (u := ()) gx_nil gx_noneD hS (rfl) dX6_refuse_25
  · exact absurd c_1 (by first | decide | (rw [gx_bn]; decide) | simp [gx_bn])
set_option maxHeartbeats 4000000 in
set_option maxRecDepth 100000 in
theorem k_refuse5 (l : Launch) (D : va_G) (k : Nat → ClassId) (ad : Nat → Nat) (sz : Nat) : Met l yX6_refuse (.code yX6_refuse cX6_refuse 2 (some .int) :: gx_T) ({ frames := 1, cells := 0, slots := 0, locals := 22 }) (gx_Pre D k [.ref (ad 0), .int (-5)] ([((ad 0), .inr (4, [.ref (ad 1), .ref (ad 2), .ref (ad 3), .ref (ad 4), .ref (ad 5), .ref (ad 6), .ref (ad 7), .ref (ad 8), .ref (ad 9), .int 0])), ((ad 9), .inl (k 0, 5, .inl (fun _ => 0)))]) sz) (gx_Qi D (fun (r : Int32) (u : Unit) => r = -5) (fun (u : Unit) => ([] : va_W)) (va_A ([((ad 0), .inr (4, [.ref (ad 1), .ref (ad 2), .ref (ad 3), .ref (ad 4), .ref (ad 5), .ref (ad 6), .ref (ad 7), .ref (ad 8), .ref (ad 9), .int 0])), ((ad 9), .inl (k 0, 5, .inl (fun _ => 0)))]) sz)) 0 0 (va_A ([((ad 0), .inr (4, [.ref (ad 1), .ref (ad 2), .ref (ad 3), .ref (ad 4), .ref (ad 5), .ref (ad 6), .ref (ad 7), .ref (ad 8), .ref (ad 9), .int 0])), ((ad 9), .inl (k 0, 5, .inl (fun _ => 0)))]) sz) := by
  refine gx_metE (Qc := fun A => gx_Qi D (fun (r : Int32) (u : Unit) => r = -5) (fun (u : Unit) => ([] : va_W)) A) (by decide) (Nat.le_of_ble_eq_true rfl) ?_
  intro p e s m below meth c A ls C hA hP hD hK hS hl
  obtain ⟨hx, hb, hr, hml, hown, hT, hlk, hin⟩ := id C
  have hown : s.vm.findClass RX6 = some m.cls := hown
  have hl : lv_has ls 2 [(0, .ref (ad 0)), (1, .int (-5))] := hl
  refine lv_iload_n hx hb dX6_refuse_0 rfl (lv_at hl 1 rfl) ?_
  refine lv_bipush (v := (-6)) hx hb dX6_refuse_1 (by decide) ?_
  refine lv_bipush (v := (-2)) hx hb dX6_refuse_3 (by decide) ?_
  refine gx_pi hP hS (gx_runS (na := 3) (As := [.int (-5), .int (-6), .int (-2)]) (rest := []) C hl.1 hK (gx_subP (wc := ([] : va_W)) hP [] rfl) ((hD.sub (ws' := ([] : va_W)) [] (by decide) rfl).weaken (fun _ _ _ _ => trivial)) (k_isBetween l D k (-5) (-6) (-2) _) gS_RX6_57 (by decide +kernel) rfl rfl ⟨Nat.le_of_ble_eq_true rfl, Nat.le_of_ble_eq_true rfl⟩ rfl rfl (Nat.le_of_ble_eq_true rfl) dX6_refuse_5 ⟨Nat.le_of_ble_eq_true rfl, Nat.le_of_ble_eq_true rfl⟩) (fun r_2 H locs pc_1 hP hS => ?_)
  have oc_1 : r_2 = 1 ∧ gx_b (-5) (-6) (-2) = true ∨ r_2 = 0 ∧ gx_b (-5) (-6) (-2) = false := pc_1
  clear pc_1
  rcases oc_1 with ⟨rfl, c_1⟩ | ⟨rfl, c_1⟩
  · refine lv_if_eq (tgt := 24) hx hb dX6_refuse_8 (by decide) (fun c_3 => absurd c_3 (by decide)) (fun c_3 => ?_)
    refine lv_aload_n hx hb dX6_refuse_11 rfl (lv_at hl 0 rfl) ?_
    refine va_get (D := D) (ci := 4) (v := .ref (ad 9)) (C := RX6) (T := TX6) (N := 10) hx hb hT iw_TX6 hown hK.1 hP 0 rfl rfl 8 (by decide) (hT _ wd_279) (fun _ h9 => h9) rfl dX6_refuse_12 ?_
    refine lv_bipush (v := (-2)) hx hb dX6_refuse_15 (by decide) ?_
    refine lv_iload_n hx hb dX6_refuse_17 rfl (lv_at hl 1 rfl) ?_
    refine lv_isub hx hb dX6_refuse_18 ?_
    refine gx_cst (v := 3) (by decide) ?_
    refine lv_dup2_11 hx hb dX6_refuse_19 rfl rfl ?_
    refine va_iald hx hb hK.1 hP 1 0 rfl rfl (gx_vin rfl) dX6_refuse_20 ?_
    refine gx_cst (v := 0) (rfl) ?_
    refine lv_iconst (v := 1) hx hb dX6_refuse_21 (by decide) ?_
    refine lv_iadd hx hb dX6_refuse_22 ?_
    refine gx_cst (v := 1) (by decide) ?_
    refine va_iast hx hb hK.1 hP hD hS 1 0 rfl rfl (gx_vin rfl) dX6_refuse_23 (fun H locs hP hD hS => ?_)
    obtain ⟨f_4, ef_4⟩ : ∃ f9, f9 = upd ((fun _ => 0) : Nat → Int32) (3 : Int32).toNatClampNeg (1 : Int32) := ⟨_, rfl⟩
    have hP : va_P D gx_cl [((ad 0), .inr (4, [.ref (ad 1), .ref (ad 2), .ref (ad 3), .ref (ad 4), .ref (ad 5), .ref (ad 6), .ref (ad 7), .ref (ad 8), .ref (ad 9), .int 0])), ((ad 9), .inl (k 0, 5, .inl f_4))] H := by subst ef_4; exact hP
    have hD : va_D A [((ad 0), .inr (4, [.ref (ad 1), .ref (ad 2), .ref (ad 3), .ref (ad 4), .ref (ad 5), .ref (ad 6), .ref (ad 7), .ref (ad 8), .ref (ad 9), .int 0])), ((ad 9), .inl (k 0, 5, .inl f_4))] := by subst ef_4; exact hD
    refine lv_iload_n hx hb dX6_refuse_24 rfl (lv_at hl 1 rfl) ?_
    exact gx_retI C (u := ()) gx_nil gx_noneD hS (rfl) dX6_refuse_25
  · exact absurd c_1 (by first | decide | (rw [gx_bn]; decide) | simp [gx_bn])
set_option maxHeartbeats 4000000 in
set_option maxRecDepth 100000 in
theorem k_isEmpty (l : Launch) (D : va_G) (k : Nat → ClassId) (h0 : Nat) (e0 : Nat) (z0 : Int32) (a0 : Int32) (sz : Nat) : Met l yX3_isEmpty (.code yX3_isEmpty cX3_isEmpty 1 (some .boolean) :: gx_T) ({ frames := 0, cells := 0, slots := 0, locals := 0 }) (gx_Pre D k [.ref h0] ([(h0, .inr (1, [.ref e0, .int z0, .int a0, .int (-1)]))]) sz) (gx_Pi (fun r => r = 1)) 0 0 gx_No := by
  refine gx_metP (by decide) (Nat.le_of_ble_eq_true rfl) ?_
  intro p e s m below meth c ls C hP hD hK hS hl
  obtain ⟨hx, hb, hr, hml, hown, hT, hlk, hin⟩ := id C
  have hown : s.vm.findClass RX3 = some m.cls := hown
  have hl : lv_has ls 1 [(0, .ref h0)] := hl
  refine lv_aload_n hx hb dX3_isEmpty_0 rfl (lv_at hl 0 rfl) ?_
  refine va_get (D := D) (ci := 1) (v := .int (-1)) (C := RX3) (T := TX3) (N := 4) hx hb hT iw_TX3 hown hK.1 hP 0 rfl rfl 3 (by decide) (hT _ wd_259) (fun _ h9 => h9) rfl dX3_isEmpty_1 ?_
  refine lv_iconst (v := (-1)) hx hb dX3_isEmpty_4 (by decide) ?_
  refine lv_icmp_ne (tgt := 12) hx hb dX3_isEmpty_5 (by decide) (fun c_1 => absurd (by decide) c_1) (fun c_1 => ?_)
  refine lv_iconst (v := 1) hx hb dX3_isEmpty_8 (by decide) ?_
  refine lv_goto (tgt := 13) hx hb dX3_isEmpty_9 (by decide) ?_
  exact gx_retPZ C hS rfl (rfl) dX3_isEmpty_13
set_option maxHeartbeats 4000000 in
set_option maxRecDepth 100000 in
theorem k_isRow (l : Launch) (D : va_G) (k : Nat → ClassId) (h0 : Nat) (e0 : Nat) (z0 : Int32) (a0 : Int32) (sz : Nat) : Met l yX3_isRow (.code yX3_isRow cX3_isRow 1 (some .boolean) :: gx_T) ({ frames := 0, cells := 0, slots := 0, locals := 0 }) (gx_Pre D k [.ref h0] ([(h0, .inr (1, [.ref e0, .int z0, .int a0, .int (-1)]))]) sz) (gx_Pi (fun r => r = 0)) 0 0 gx_No := by
  refine gx_metP (by decide) (Nat.le_of_ble_eq_true rfl) ?_
  intro p e s m below meth c ls C hP hD hK hS hl
  obtain ⟨hx, hb, hr, hml, hown, hT, hlk, hin⟩ := id C
  have hown : s.vm.findClass RX3 = some m.cls := hown
  have hl : lv_has ls 1 [(0, .ref h0)] := hl
  refine lv_aload_n hx hb dX3_isRow_0 rfl (lv_at hl 0 rfl) ?_
  refine va_get (D := D) (ci := 1) (v := .int (-1)) (C := RX3) (T := TX3) (N := 4) hx hb hT iw_TX3 hown hK.1 hP 0 rfl rfl 3 (by decide) (hT _ wd_259) (fun _ h9 => h9) rfl dX3_isRow_1 ?_
  refine lv_if_lt (tgt := 19) hx hb dX3_isRow_4 (by decide) (fun c_1 => ?_) (fun c_1 => absurd (by decide) c_1)
  refine lv_iconst (v := 0) hx hb dX3_isRow_19 (by decide) ?_
  exact gx_retPZ C hS rfl (rfl) dX3_isRow_20
set_option maxHeartbeats 4000000 in
set_option maxRecDepth 100000 in
theorem k_isRule (l : Launch) (D : va_G) (k : Nat → ClassId) (h0 : Nat) (e0 : Nat) (z0 : Int32) (a0 : Int32) (sz : Nat) : Met l yX3_isRule (.code yX3_isRule cX3_isRule 1 (some .boolean) :: gx_T) ({ frames := 0, cells := 0, slots := 0, locals := 0 }) (gx_Pre D k [.ref h0] ([(h0, .inr (1, [.ref e0, .int z0, .int a0, .int (-1)]))]) sz) (gx_Pi (fun r => r = 0)) 0 0 gx_No := by
  refine gx_metP (by decide) (Nat.le_of_ble_eq_true rfl) ?_
  intro p e s m below meth c ls C hP hD hK hS hl
  obtain ⟨hx, hb, hr, hml, hown, hT, hlk, hin⟩ := id C
  have hown : s.vm.findClass RX3 = some m.cls := hown
  have hl : lv_has ls 1 [(0, .ref h0)] := hl
  refine lv_aload_n hx hb dX3_isRule_0 rfl (lv_at hl 0 rfl) ?_
  refine va_get (D := D) (ci := 1) (v := .int (-1)) (C := RX3) (T := TX3) (N := 4) hx hb hT iw_TX3 hown hK.1 hP 0 rfl rfl 3 (by decide) (hT _ wd_259) (fun _ h9 => h9) rfl dX3_isRule_1 ?_
  refine lv_bipush (v := 10) hx hb dX3_isRule_4 (by decide) ?_
  refine lv_icmp_lt (tgt := 13) hx hb dX3_isRule_6 (by decide) (fun c_1 => ?_) (fun c_1 => absurd (by decide) c_1)
  refine lv_iconst (v := 0) hx hb dX3_isRule_13 (by decide) ?_
  exact gx_retPZ C hS rfl (rfl) dX3_isRule_14
end
section
theorem wd_5 : Cond.selects RX4 yX4_advance yX4_advance ∈ gx_T := gx_in (List.mem_of_getElem? (i := 5) (by decide +kernel)) (by decide +kernel)
theorem wd_6 : Cond.selects RX4 yX4_sortAt yX4_sortAt ∈ gx_T := gx_in (List.mem_of_getElem? (i := 6) (by decide +kernel)) (by decide +kernel)
theorem wd_7 : Cond.selects RX4 yX4_readStatement yX4_readStatement ∈ gx_T := gx_in (List.mem_of_getElem? (i := 7) (by decide +kernel)) (by decide +kernel)
theorem wd_8 : Cond.selects RX4 yX4_takes yX4_takes ∈ gx_T := gx_in (List.mem_of_getElem? (i := 8) (by decide +kernel)) (by decide +kernel)
theorem wd_12 : Cond.selects RX4 yX4_stopHere yX4_stopHere ∈ gx_T := gx_in (List.mem_of_getElem? (i := 12) (by decide +kernel)) (by decide +kernel)
theorem wd_70 : Cond.initialized RX1 ∈ gx_T := gx_in (List.mem_of_getElem? (i := 70) (by decide +kernel)) (by decide +kernel)
theorem wd_71 : Cond.initialized RJ7 ∈ gx_T := gx_in (List.mem_of_getElem? (i := 71) (by decide +kernel)) (by decide +kernel)
theorem wd_72 : Cond.initialized RX4 ∈ gx_T := gx_in (List.mem_of_getElem? (i := 72) (by decide +kernel)) (by decide +kernel)
theorem wd_74 : Cond.initialized RX3 ∈ gx_T := gx_in (List.mem_of_getElem? (i := 74) (by decide +kernel)) (by decide +kernel)
theorem wd_76 : Cond.initialized RJ10 ∈ gx_T := gx_in (List.mem_of_getElem? (i := 76) (by decide +kernel)) (by decide +kernel)
theorem wd_102 : Cond.fieldLink RX1 9 "EachRoadOnce$Land" "from" "[I" ∈ gx_T := gx_in (List.mem_of_getElem? (i := 102) (by decide +kernel)) (by decide +kernel)
theorem wd_106 : Cond.fieldLink RX1 15 "EachRoadOnce$Land" "to" "[I" ∈ gx_T := gx_in (List.mem_of_getElem? (i := 106) (by decide +kernel)) (by decide +kernel)
theorem wd_110 : Cond.fieldLink RX1 18 "EachRoadOnce$Land" "ends" "[I" ∈ gx_T := gx_in (List.mem_of_getElem? (i := 110) (by decide +kernel)) (by decide +kernel)
theorem wd_113 : Cond.fieldLink RX1 21 "EachRoadOnce$Land" "miles" "[I" ∈ gx_T := gx_in (List.mem_of_getElem? (i := 113) (by decide +kernel)) (by decide +kernel)
theorem wd_118 : Cond.fieldLink RX1 24 "EachRoadOnce$Land" "home" "[I" ∈ gx_T := gx_in (List.mem_of_getElem? (i := 118) (by decide +kernel)) (by decide +kernel)
theorem wd_121 : Cond.fieldLink RX1 27 "EachRoadOnce$Land" "place" "[I" ∈ gx_T := gx_in (List.mem_of_getElem? (i := 121) (by decide +kernel)) (by decide +kernel)
theorem wd_124 : Cond.fieldLink RX1 30 "EachRoadOnce$Land" "been" "[I" ∈ gx_T := gx_in (List.mem_of_getElem? (i := 124) (by decide +kernel)) (by decide +kernel)
theorem wd_127 : Cond.fieldLink RX1 33 "EachRoadOnce$Land" "gone" "[I" ∈ gx_T := gx_in (List.mem_of_getElem? (i := 127) (by decide +kernel)) (by decide +kernel)
theorem wd_129 : Cond.fieldLink RX1 36 "EachRoadOnce$Land" "when" "[I" ∈ gx_T := gx_in (List.mem_of_getElem? (i := 129) (by decide +kernel)) (by decide +kernel)
theorem wd_132 : Cond.fieldLink RX1 55 "EachRoadOnce$Land" "roads" "I" ∈ gx_T := gx_in (List.mem_of_getElem? (i := 132) (by decide +kernel)) (by decide +kernel)
theorem wd_133 : Cond.fieldLink RX4 40 "EachRoadOnce$Land" "roads" "I" ∈ gx_T := gx_in (List.mem_of_getElem? (i := 133) (by decide +kernel)) (by decide +kernel)
theorem wd_136 : Cond.fieldLink RX1 58 "EachRoadOnce$Land" "people" "I" ∈ gx_T := gx_in (List.mem_of_getElem? (i := 136) (by decide +kernel)) (by decide +kernel)
theorem wd_137 : Cond.fieldLink RX4 54 "EachRoadOnce$Land" "people" "I" ∈ gx_T := gx_in (List.mem_of_getElem? (i := 137) (by decide +kernel)) (by decide +kernel)
theorem wd_139 : Cond.fieldLink RX1 61 "EachRoadOnce$Land" "year" "I" ∈ gx_T := gx_in (List.mem_of_getElem? (i := 139) (by decide +kernel)) (by decide +kernel)
theorem wd_141 : Cond.fieldLink RX1 64 "EachRoadOnce$Land" "anew" "I" ∈ gx_T := gx_in (List.mem_of_getElem? (i := 141) (by decide +kernel)) (by decide +kernel)
theorem wd_144 : Cond.fieldLink RX1 39 "EachRoadOnce$Land" "seed" "I" ∈ gx_T := gx_in (List.mem_of_getElem? (i := 144) (by decide +kernel)) (by decide +kernel)
theorem wd_146 : Cond.fieldLink RX1 67 "EachRoadOnce$Land" "shutRoads" "I" ∈ gx_T := gx_in (List.mem_of_getElem? (i := 146) (by decide +kernel)) (by decide +kernel)
theorem wd_149 : Cond.fieldLink RX1 70 "EachRoadOnce$Land" "roundRoads" "I" ∈ gx_T := gx_in (List.mem_of_getElem? (i := 149) (by decide +kernel)) (by decide +kernel)
theorem wd_151 : Cond.fieldLink RX1 73 "EachRoadOnce$Land" "walked" "I" ∈ gx_T := gx_in (List.mem_of_getElem? (i := 151) (by decide +kernel)) (by decide +kernel)
theorem wd_195 : Cond.fieldLink RX4 9 "EachRoadOnce$Tape" "bytes" "[I" ∈ gx_T := gx_in (List.mem_of_getElem? (i := 195) (by decide +kernel)) (by decide +kernel)
theorem wd_196 : Cond.fieldLink RX4 19 "EachRoadOnce$Tape" "size" "I" ∈ gx_T := gx_in (List.mem_of_getElem? (i := 196) (by decide +kernel)) (by decide +kernel)
theorem wd_198 : Cond.fieldLink RX4 15 "EachRoadOnce$Tape" "fault" "I" ∈ gx_T := gx_in (List.mem_of_getElem? (i := 198) (by decide +kernel)) (by decide +kernel)
theorem wd_200 : Cond.fieldLink RX4 32 "EachRoadOnce$Tape" "sort" "I" ∈ gx_T := gx_in (List.mem_of_getElem? (i := 200) (by decide +kernel)) (by decide +kernel)
theorem wd_201 : Cond.fieldLink RX4 108 "EachRoadOnce$Tape" "start" "I" ∈ gx_T := gx_in (List.mem_of_getElem? (i := 201) (by decide +kernel)) (by decide +kernel)
theorem wd_202 : Cond.fieldLink RX4 22 "EachRoadOnce$Tape" "end" "I" ∈ gx_T := gx_in (List.mem_of_getElem? (i := 202) (by decide +kernel)) (by decide +kernel)
theorem wd_251 : Cond.fieldLink RX3 9 "EachRoadOnce$Shelf" "elements" "[J" ∈ gx_T := gx_in (List.mem_of_getElem? (i := 251) (by decide +kernel)) (by decide +kernel)
theorem wd_255 : Cond.fieldLink RX3 19 "EachRoadOnce$Shelf" "size" "I" ∈ gx_T := gx_in (List.mem_of_getElem? (i := 255) (by decide +kernel)) (by decide +kernel)
theorem wd_257 : Cond.fieldLink RX3 22 "EachRoadOnce$Shelf" "a" "I" ∈ gx_T := gx_in (List.mem_of_getElem? (i := 257) (by decide +kernel)) (by decide +kernel)
theorem wd_275 : Cond.fieldLink RX6 31 "EachRoadOnce" "shelves" "[LEachRoadOnce$Shelf;" ∈ gx_T := gx_in (List.mem_of_getElem? (i := 275) (by decide +kernel)) (by decide +kernel)
theorem wd_320 : Cond.methodLink RX3 25 yJ7_fill_d0a16 ∈ gx_T := gx_in (List.mem_of_getElem? (i := 320) (by decide +kernel)) (by decide +kernel)
theorem wd_321 : Cond.static yJ7_fill_d0a16 ∈ gx_T := gx_in (List.mem_of_getElem? (i := 321) (by decide +kernel)) (by decide +kernel)
theorem wd_322 : Cond.code yJ7_fill_d0a16 cJ7_fill_d0a16 5 none ∈ gx_T := gx_in (List.mem_of_getElem? (i := 322) (by decide +kernel)) (by decide +kernel)
theorem wd_331 : Cond.methodLink RX6 225 yX3_isRule ∈ gx_T := gx_in (List.mem_of_getElem? (i := 331) (by decide +kernel)) (by decide +kernel)
theorem wd_332 : Cond.instanceMethod yX3_isRule ∈ gx_T := gx_in (List.mem_of_getElem? (i := 332) (by decide +kernel)) (by decide +kernel)
theorem wd_333 : Cond.selects RX3 yX3_isRule yX3_isRule ∈ gx_T := gx_in (List.mem_of_getElem? (i := 333) (by decide +kernel)) (by decide +kernel)
theorem wd_334 : Cond.code yX3_isRule cX3_isRule 1 (some .boolean) ∈ gx_T := gx_in (List.mem_of_getElem? (i := 334) (by decide +kernel)) (by decide +kernel)
theorem wd_335 : Cond.methodLink RX6 312 yX3_isEmpty ∈ gx_T := gx_in (List.mem_of_getElem? (i := 335) (by decide +kernel)) (by decide +kernel)
theorem wd_336 : Cond.instanceMethod yX3_isEmpty ∈ gx_T := gx_in (List.mem_of_getElem? (i := 336) (by decide +kernel)) (by decide +kernel)
theorem wd_337 : Cond.selects RX3 yX3_isEmpty yX3_isEmpty ∈ gx_T := gx_in (List.mem_of_getElem? (i := 337) (by decide +kernel)) (by decide +kernel)
theorem wd_338 : Cond.code yX3_isEmpty cX3_isEmpty 1 (some .boolean) ∈ gx_T := gx_in (List.mem_of_getElem? (i := 338) (by decide +kernel)) (by decide +kernel)
theorem wd_355 : Cond.static arraycopyName ∈ gx_T := gx_in (List.mem_of_getElem? (i := 355) (by decide +kernel)) (by decide +kernel)
theorem wd_356 : Cond.native arraycopyName ∈ gx_T := gx_in (List.mem_of_getElem? (i := 356) (by decide +kernel)) (by decide +kernel)
theorem wd_361 : Cond.methodLink RX6 98 yX3_isRow ∈ gx_T := gx_in (List.mem_of_getElem? (i := 361) (by decide +kernel)) (by decide +kernel)
theorem wd_362 : Cond.instanceMethod yX3_isRow ∈ gx_T := gx_in (List.mem_of_getElem? (i := 362) (by decide +kernel)) (by decide +kernel)
theorem wd_363 : Cond.selects RX3 yX3_isRow yX3_isRow ∈ gx_T := gx_in (List.mem_of_getElem? (i := 363) (by decide +kernel)) (by decide +kernel)
theorem wd_364 : Cond.code yX3_isRow cX3_isRow 1 (some .boolean) ∈ gx_T := gx_in (List.mem_of_getElem? (i := 364) (by decide +kernel)) (by decide +kernel)
theorem wd_476 : Cond.methodLink RX1 76 yX1_put ∈ gx_T := gx_in (List.mem_of_getElem? (i := 476) (by decide +kernel)) (by decide +kernel)
theorem wd_477 : Cond.instanceMethod yX1_put ∈ gx_T := gx_in (List.mem_of_getElem? (i := 477) (by decide +kernel)) (by decide +kernel)
theorem wd_478 : Cond.selects RX1 yX1_put yX1_put ∈ gx_T := gx_in (List.mem_of_getElem? (i := 478) (by decide +kernel)) (by decide +kernel)
theorem wd_479 : Cond.code yX1_put cX1_put 3 none ∈ gx_T := gx_in (List.mem_of_getElem? (i := 479) (by decide +kernel)) (by decide +kernel)
theorem wd_513 : Cond.methodLink RX1 49 arraycopyName ∈ gx_T := gx_in (List.mem_of_getElem? (i := 513) (by decide +kernel)) (by decide +kernel)
theorem wd_518 : Cond.methodLink RX4 25 yX4_advance ∈ gx_T := gx_in (List.mem_of_getElem? (i := 518) (by decide +kernel)) (by decide +kernel)
theorem wd_520 : Cond.instanceMethod yX4_advance ∈ gx_T := gx_in (List.mem_of_getElem? (i := 520) (by decide +kernel)) (by decide +kernel)
theorem wd_521 : Cond.code yX4_advance cX4_advance 1 none ∈ gx_T := gx_in (List.mem_of_getElem? (i := 521) (by decide +kernel)) (by decide +kernel)
theorem wd_522 : Cond.methodLink RX4 124 yX4_sortAt ∈ gx_T := gx_in (List.mem_of_getElem? (i := 522) (by decide +kernel)) (by decide +kernel)
theorem wd_524 : Cond.instanceMethod yX4_sortAt ∈ gx_T := gx_in (List.mem_of_getElem? (i := 524) (by decide +kernel)) (by decide +kernel)
theorem wd_525 : Cond.code yX4_sortAt cX4_sortAt 3 (some .int) ∈ gx_T := gx_in (List.mem_of_getElem? (i := 525) (by decide +kernel)) (by decide +kernel)
theorem wd_526 : Cond.methodLink RX4 28 yX4_readStatement ∈ gx_T := gx_in (List.mem_of_getElem? (i := 526) (by decide +kernel)) (by decide +kernel)
theorem wd_528 : Cond.instanceMethod yX4_readStatement ∈ gx_T := gx_in (List.mem_of_getElem? (i := 528) (by decide +kernel)) (by decide +kernel)
theorem wd_529 : Cond.code yX4_readStatement cX4_readStatement 2 none ∈ gx_T := gx_in (List.mem_of_getElem? (i := 529) (by decide +kernel)) (by decide +kernel)
theorem wd_531 : Cond.methodLink RX4 45 yX4_takes ∈ gx_T := gx_in (List.mem_of_getElem? (i := 531) (by decide +kernel)) (by decide +kernel)
theorem wd_533 : Cond.instanceMethod yX4_takes ∈ gx_T := gx_in (List.mem_of_getElem? (i := 533) (by decide +kernel)) (by decide +kernel)
theorem wd_534 : Cond.code yX4_takes cX4_takes 4 (some .boolean) ∈ gx_T := gx_in (List.mem_of_getElem? (i := 534) (by decide +kernel)) (by decide +kernel)
theorem wd_595 : Cond.methodLink RX4 35 yX4_stopHere ∈ gx_T := gx_in (List.mem_of_getElem? (i := 595) (by decide +kernel)) (by decide +kernel)
theorem wd_597 : Cond.instanceMethod yX4_stopHere ∈ gx_T := gx_in (List.mem_of_getElem? (i := 597) (by decide +kernel)) (by decide +kernel)
theorem wd_598 : Cond.code yX4_stopHere cX4_stopHere 1 none ∈ gx_T := gx_in (List.mem_of_getElem? (i := 598) (by decide +kernel)) (by decide +kernel)
theorem wd_753 : Cond.constant RJ6 265 1431655765 ∈ gx_T := gx_in (List.mem_of_getElem? (i := 753) (by decide +kernel)) (by decide +kernel)
theorem wd_754 : Cond.constant RJ6 266 858993459 ∈ gx_T := gx_in (List.mem_of_getElem? (i := 754) (by decide +kernel)) (by decide +kernel)
theorem wd_755 : Cond.constant RJ6 267 252645135 ∈ gx_T := gx_in (List.mem_of_getElem? (i := 755) (by decide +kernel)) (by decide +kernel)
theorem gV_RX6_225 : GoodIn gx_T (wsV RX6 225 RX3 yX3_isRule (.code yX3_isRule cX3_isRule 1 (some .boolean) :: gx_T)) := gx_gV wd_331 wd_332 wd_333 wd_74 wd_334
theorem gV_RX6_312 : GoodIn gx_T (wsV RX6 312 RX3 yX3_isEmpty (.code yX3_isEmpty cX3_isEmpty 1 (some .boolean) :: gx_T)) := gx_gV wd_335 wd_336 wd_337 wd_74 wd_338
theorem gV_RX6_98 : GoodIn gx_T (wsV RX6 98 RX3 yX3_isRow (.code yX3_isRow cX3_isRow 1 (some .boolean) :: gx_T)) := gx_gV wd_361 wd_362 wd_363 wd_74 wd_364
theorem gS_RX3_25 : GoodIn gx_T (va_wsS RX3 25 yJ7_fill_d0a16 (.code yJ7_fill_d0a16 cJ7_fill_d0a16 5 none :: gx_T)) := gx_gS wd_320 wd_321 wd_71 wd_322
theorem gV_RX1_76 : GoodIn gx_T (wsV RX1 76 RX1 yX1_put (.code yX1_put cX1_put 3 none :: gx_T)) := gx_gV wd_476 wd_477 wd_478 wd_70 wd_479
theorem gV_RX4_124 : GoodIn gx_T (wsV RX4 124 RX4 yX4_sortAt (.code yX4_sortAt cX4_sortAt 3 (some .int) :: gx_T)) := gx_gV wd_522 wd_524 wd_6 wd_72 wd_525
theorem gV_RX4_45 : GoodIn gx_T (wsV RX4 45 RX4 yX4_takes (.code yX4_takes cX4_takes 4 (some .boolean) :: gx_T)) := gx_gV wd_531 wd_533 wd_8 wd_72 wd_534
theorem gV_RX4_35 : GoodIn gx_T (wsV RX4 35 RX4 yX4_stopHere (.code yX4_stopHere cX4_stopHere 1 none :: gx_T)) := gx_gV wd_595 wd_597 wd_12 wd_72 wd_598
theorem gV_RX4_25 : GoodIn gx_T (wsV RX4 25 RX4 yX4_advance (.code yX4_advance cX4_advance 1 none :: gx_T)) := gx_gV wd_518 wd_520 wd_5 wd_72 wd_521
theorem gV_RX4_28 : GoodIn gx_T (wsV RX4 28 RX4 yX4_readStatement (.code yX4_readStatement cX4_readStatement 2 none :: gx_T)) := gx_gV wd_526 wd_528 wd_7 wd_72 wd_529
theorem dX6_rowTrouble_0 : decode cX6_rowTrouble 0 = .ok (.aload_n 0, 1) := by decide +kernel
theorem dX6_rowTrouble_1 : decode cX6_rowTrouble 1 = .ok (.getfield 31, 3) := by decide +kernel
theorem dX6_rowTrouble_4 : decode cX6_rowTrouble 4 = .ok (.iload_n 1, 1) := by decide +kernel
theorem dX6_rowTrouble_5 : decode cX6_rowTrouble 5 = .ok (.aaload, 1) := by decide +kernel
theorem dX6_rowTrouble_6 : decode cX6_rowTrouble 6 = .ok (.invokevirtual 225, 3) := by decide +kernel
theorem dX6_rowTrouble_9 : decode cX6_rowTrouble 9 = .ok (.ifCond .eq 6, 3) := by decide +kernel
theorem dX6_rowTrouble_15 : decode cX6_rowTrouble 15 = .ok (.aload_n 0, 1) := by decide +kernel
theorem dX6_rowTrouble_16 : decode cX6_rowTrouble 16 = .ok (.getfield 31, 3) := by decide +kernel
theorem dX6_rowTrouble_19 : decode cX6_rowTrouble 19 = .ok (.iload_n 1, 1) := by decide +kernel
theorem dX6_rowTrouble_20 : decode cX6_rowTrouble 20 = .ok (.aaload, 1) := by decide +kernel
theorem dX6_rowTrouble_21 : decode cX6_rowTrouble 21 = .ok (.invokevirtual 312, 3) := by decide +kernel
theorem dX6_rowTrouble_24 : decode cX6_rowTrouble 24 = .ok (.ifCond .eq 8, 3) := by decide +kernel
theorem dX6_rowTrouble_27 : decode cX6_rowTrouble 27 = .ok (.bipush (-4), 2) := by decide +kernel
theorem dX6_rowTrouble_29 : decode cX6_rowTrouble 29 = .ok (.goto 4, 3) := by decide +kernel
theorem dX6_rowTrouble_33 : decode cX6_rowTrouble 33 = .ok (.ireturn, 1) := by decide +kernel
theorem dX6_ruleTrouble_0 : decode cX6_ruleTrouble 0 = .ok (.aload_n 0, 1) := by decide +kernel
theorem dX6_ruleTrouble_1 : decode cX6_ruleTrouble 1 = .ok (.getfield 31, 3) := by decide +kernel
theorem dX6_ruleTrouble_4 : decode cX6_ruleTrouble 4 = .ok (.iload_n 1, 1) := by decide +kernel
theorem dX6_ruleTrouble_5 : decode cX6_ruleTrouble 5 = .ok (.aaload, 1) := by decide +kernel
theorem dX6_ruleTrouble_6 : decode cX6_ruleTrouble 6 = .ok (.invokevirtual 98, 3) := by decide +kernel
theorem dX6_ruleTrouble_9 : decode cX6_ruleTrouble 9 = .ok (.ifCond .eq 6, 3) := by decide +kernel
theorem dX6_ruleTrouble_15 : decode cX6_ruleTrouble 15 = .ok (.aload_n 0, 1) := by decide +kernel
theorem dX6_ruleTrouble_16 : decode cX6_ruleTrouble 16 = .ok (.getfield 31, 3) := by decide +kernel
theorem dX6_ruleTrouble_19 : decode cX6_ruleTrouble 19 = .ok (.iload_n 1, 1) := by decide +kernel
theorem dX6_ruleTrouble_20 : decode cX6_ruleTrouble 20 = .ok (.aaload, 1) := by decide +kernel
theorem dX6_ruleTrouble_21 : decode cX6_ruleTrouble 21 = .ok (.invokevirtual 312, 3) := by decide +kernel
theorem dX6_ruleTrouble_24 : decode cX6_ruleTrouble 24 = .ok (.ifCond .eq 8, 3) := by decide +kernel
theorem dX6_ruleTrouble_27 : decode cX6_ruleTrouble 27 = .ok (.bipush (-4), 2) := by decide +kernel
theorem dX6_ruleTrouble_29 : decode cX6_ruleTrouble 29 = .ok (.goto 4, 3) := by decide +kernel
theorem dX6_ruleTrouble_33 : decode cX6_ruleTrouble 33 = .ok (.ireturn, 1) := by decide +kernel
theorem dX6_copyTrouble_0 : decode cX6_copyTrouble 0 = .ok (.aload_n 0, 1) := by decide +kernel
theorem dX6_copyTrouble_1 : decode cX6_copyTrouble 1 = .ok (.invokevirtual 225, 3) := by decide +kernel
theorem dX6_copyTrouble_4 : decode cX6_copyTrouble 4 = .ok (.ifCond .ne 10, 3) := by decide +kernel
theorem dX6_copyTrouble_7 : decode cX6_copyTrouble 7 = .ok (.aload_n 1, 1) := by decide +kernel
theorem dX6_copyTrouble_8 : decode cX6_copyTrouble 8 = .ok (.invokevirtual 225, 3) := by decide +kernel
theorem dX6_copyTrouble_11 : decode cX6_copyTrouble 11 = .ok (.ifCond .eq 6, 3) := by decide +kernel
theorem dX6_copyTrouble_17 : decode cX6_copyTrouble 17 = .ok (.aload_n 0, 1) := by decide +kernel
theorem dX6_copyTrouble_18 : decode cX6_copyTrouble 18 = .ok (.invokevirtual 312, 3) := by decide +kernel
theorem dX6_copyTrouble_21 : decode cX6_copyTrouble 21 = .ok (.ifCond .ne 10, 3) := by decide +kernel
theorem dX6_copyTrouble_31 : decode cX6_copyTrouble 31 = .ok (.bipush (-4), 2) := by decide +kernel
theorem dX6_copyTrouble_33 : decode cX6_copyTrouble 33 = .ok (.ireturn, 1) := by decide +kernel
theorem dJ7_fill_d0a16_0 : decode cJ7_fill_d0a16 0 = .ok (.iconst 0, 1) := by decide +kernel
theorem dJ7_fill_d0a16_1 : decode cJ7_fill_d0a16 1 = .ok (.istore_n 3, 1) := by decide +kernel
theorem dJ7_fill_d0a16_2 : decode cJ7_fill_d0a16 2 = .ok (.aload_n 0, 1) := by decide +kernel
theorem dJ7_fill_d0a16_3 : decode cJ7_fill_d0a16 3 = .ok (.arraylength, 1) := by decide +kernel
theorem dJ7_fill_d0a16_4 : decode cJ7_fill_d0a16 4 = .ok (.istore 4, 2) := by decide +kernel
theorem dJ7_fill_d0a16_6 : decode cJ7_fill_d0a16 6 = .ok (.iload_n 3, 1) := by decide +kernel
theorem dJ7_fill_d0a16_7 : decode cJ7_fill_d0a16 7 = .ok (.iload 4, 2) := by decide +kernel
theorem dJ7_fill_d0a16_9 : decode cJ7_fill_d0a16 9 = .ok (.if_icmp .ge 13, 3) := by decide +kernel
theorem dJ7_fill_d0a16_12 : decode cJ7_fill_d0a16 12 = .ok (.aload_n 0, 1) := by decide +kernel
theorem dJ7_fill_d0a16_13 : decode cJ7_fill_d0a16 13 = .ok (.iload_n 3, 1) := by decide +kernel
theorem dJ7_fill_d0a16_14 : decode cJ7_fill_d0a16 14 = .ok (.lload_n 1, 1) := by decide +kernel
theorem dJ7_fill_d0a16_15 : decode cJ7_fill_d0a16 15 = .ok (.lastore, 1) := by decide +kernel
theorem dJ7_fill_d0a16_16 : decode cJ7_fill_d0a16 16 = .ok (.iinc 3 1, 3) := by decide +kernel
theorem dJ7_fill_d0a16_19 : decode cJ7_fill_d0a16 19 = .ok (.goto (-13), 3) := by decide +kernel
theorem dJ7_fill_d0a16_22 : decode cJ7_fill_d0a16 22 = .ok (.return_, 1) := by decide +kernel
theorem dJ7_fill_53178_0 : decode cJ7_fill_53178 0 = .ok (.iconst 0, 1) := by decide +kernel
theorem dJ7_fill_53178_1 : decode cJ7_fill_53178 1 = .ok (.istore_n 2, 1) := by decide +kernel
theorem dJ7_fill_53178_2 : decode cJ7_fill_53178 2 = .ok (.aload_n 0, 1) := by decide +kernel
theorem dJ7_fill_53178_3 : decode cJ7_fill_53178 3 = .ok (.arraylength, 1) := by decide +kernel
theorem dJ7_fill_53178_4 : decode cJ7_fill_53178 4 = .ok (.istore_n 3, 1) := by decide +kernel
theorem dJ7_fill_53178_5 : decode cJ7_fill_53178 5 = .ok (.iload_n 2, 1) := by decide +kernel
theorem dJ7_fill_53178_6 : decode cJ7_fill_53178 6 = .ok (.iload_n 3, 1) := by decide +kernel
theorem dJ7_fill_53178_7 : decode cJ7_fill_53178 7 = .ok (.if_icmp .ge 13, 3) := by decide +kernel
theorem dJ7_fill_53178_10 : decode cJ7_fill_53178 10 = .ok (.aload_n 0, 1) := by decide +kernel
theorem dJ7_fill_53178_11 : decode cJ7_fill_53178 11 = .ok (.iload_n 2, 1) := by decide +kernel
theorem dJ7_fill_53178_12 : decode cJ7_fill_53178 12 = .ok (.iload_n 1, 1) := by decide +kernel
theorem dJ7_fill_53178_13 : decode cJ7_fill_53178 13 = .ok (.iastore, 1) := by decide +kernel
theorem dJ7_fill_53178_14 : decode cJ7_fill_53178 14 = .ok (.iinc 2 1, 3) := by decide +kernel
theorem dJ7_fill_53178_17 : decode cJ7_fill_53178 17 = .ok (.goto (-12), 3) := by decide +kernel
theorem dJ7_fill_53178_20 : decode cJ7_fill_53178 20 = .ok (.return_, 1) := by decide +kernel
theorem dX3_becomeRow_0 : decode cX3_becomeRow 0 = .ok (.aload_n 0, 1) := by decide +kernel
theorem dX3_becomeRow_1 : decode cX3_becomeRow 1 = .ok (.iload_n 1, 1) := by decide +kernel
theorem dX3_becomeRow_2 : decode cX3_becomeRow 2 = .ok (.putfield 15, 3) := by decide +kernel
theorem dX3_becomeRow_5 : decode cX3_becomeRow 5 = .ok (.aload_n 0, 1) := by decide +kernel
theorem dX3_becomeRow_6 : decode cX3_becomeRow 6 = .ok (.iload_n 2, 1) := by decide +kernel
theorem dX3_becomeRow_7 : decode cX3_becomeRow 7 = .ok (.putfield 19, 3) := by decide +kernel
theorem dX3_becomeRow_10 : decode cX3_becomeRow 10 = .ok (.aload_n 0, 1) := by decide +kernel
theorem dX3_becomeRow_11 : decode cX3_becomeRow 11 = .ok (.iconst 0, 1) := by decide +kernel
theorem dX3_becomeRow_12 : decode cX3_becomeRow 12 = .ok (.putfield 22, 3) := by decide +kernel
theorem dX3_becomeRow_15 : decode cX3_becomeRow 15 = .ok (.aload_n 0, 1) := by decide +kernel
theorem dX3_becomeRow_16 : decode cX3_becomeRow 16 = .ok (.getfield 9, 3) := by decide +kernel
theorem dX3_becomeRow_19 : decode cX3_becomeRow 19 = .ok (.lconst 0, 1) := by decide +kernel
theorem dX3_becomeRow_20 : decode cX3_becomeRow 20 = .ok (.invokestatic 25, 3) := by decide +kernel
theorem dX3_becomeRow_23 : decode cX3_becomeRow 23 = .ok (.return_, 1) := by decide +kernel
theorem dX3_becomeRule_0 : decode cX3_becomeRule 0 = .ok (.aload_n 0, 1) := by decide +kernel
theorem dX3_becomeRule_1 : decode cX3_becomeRule 1 = .ok (.bipush 10, 2) := by decide +kernel
theorem dX3_becomeRule_3 : decode cX3_becomeRule 3 = .ok (.iload_n 1, 1) := by decide +kernel
theorem dX3_becomeRule_4 : decode cX3_becomeRule 4 = .ok (.iadd, 1) := by decide +kernel
theorem dX3_becomeRule_5 : decode cX3_becomeRule 5 = .ok (.putfield 15, 3) := by decide +kernel
theorem dX3_becomeRule_8 : decode cX3_becomeRule 8 = .ok (.aload_n 0, 1) := by decide +kernel
theorem dX3_becomeRule_9 : decode cX3_becomeRule 9 = .ok (.iconst 0, 1) := by decide +kernel
theorem dX3_becomeRule_10 : decode cX3_becomeRule 10 = .ok (.putfield 19, 3) := by decide +kernel
theorem dX3_becomeRule_13 : decode cX3_becomeRule 13 = .ok (.aload_n 0, 1) := by decide +kernel
theorem dX3_becomeRule_14 : decode cX3_becomeRule 14 = .ok (.iload_n 2, 1) := by decide +kernel
theorem dX3_becomeRule_15 : decode cX3_becomeRule 15 = .ok (.putfield 22, 3) := by decide +kernel
theorem dX3_becomeRule_18 : decode cX3_becomeRule 18 = .ok (.return_, 1) := by decide +kernel
theorem dX1_build_0 : decode cX1_build 0 = .ok (.aload_n 0, 1) := by decide +kernel
theorem dX1_build_1 : decode cX1_build 1 = .ok (.getfield 55, 3) := by decide +kernel
theorem dX1_build_4 : decode cX1_build 4 = .ok (.istore 5, 2) := by decide +kernel
theorem dX1_build_6 : decode cX1_build 6 = .ok (.aload_n 0, 1) := by decide +kernel
theorem dX1_build_7 : decode cX1_build 7 = .ok (.getfield 9, 3) := by decide +kernel
theorem dX1_build_10 : decode cX1_build 10 = .ok (.iload 5, 2) := by decide +kernel
theorem dX1_build_12 : decode cX1_build 12 = .ok (.iload_n 1, 1) := by decide +kernel
theorem dX1_build_13 : decode cX1_build 13 = .ok (.iastore, 1) := by decide +kernel
theorem dX1_build_14 : decode cX1_build 14 = .ok (.aload_n 0, 1) := by decide +kernel
theorem dX1_build_15 : decode cX1_build 15 = .ok (.getfield 15, 3) := by decide +kernel
theorem dX1_build_18 : decode cX1_build 18 = .ok (.iload 5, 2) := by decide +kernel
theorem dX1_build_20 : decode cX1_build 20 = .ok (.iload_n 2, 1) := by decide +kernel
theorem dX1_build_21 : decode cX1_build 21 = .ok (.iastore, 1) := by decide +kernel
theorem dX1_build_22 : decode cX1_build 22 = .ok (.aload_n 0, 1) := by decide +kernel
theorem dX1_build_23 : decode cX1_build 23 = .ok (.getfield 18, 3) := by decide +kernel
theorem dX1_build_26 : decode cX1_build 26 = .ok (.iload 5, 2) := by decide +kernel
theorem dX1_build_28 : decode cX1_build 28 = .ok (.iconst 1, 1) := by decide +kernel
theorem dX1_build_29 : decode cX1_build 29 = .ok (.iload_n 1, 1) := by decide +kernel
theorem dX1_build_30 : decode cX1_build 30 = .ok (.ishl, 1) := by decide +kernel
theorem dX1_build_31 : decode cX1_build 31 = .ok (.iconst 1, 1) := by decide +kernel
theorem dX1_build_32 : decode cX1_build 32 = .ok (.iload_n 2, 1) := by decide +kernel
theorem dX1_build_33 : decode cX1_build 33 = .ok (.ishl, 1) := by decide +kernel
theorem dX1_build_34 : decode cX1_build 34 = .ok (.ior, 1) := by decide +kernel
theorem dX1_build_35 : decode cX1_build 35 = .ok (.iastore, 1) := by decide +kernel
theorem dX1_build_36 : decode cX1_build 36 = .ok (.aload_n 0, 1) := by decide +kernel
theorem dX1_build_37 : decode cX1_build 37 = .ok (.getfield 21, 3) := by decide +kernel
theorem dX1_build_40 : decode cX1_build 40 = .ok (.iload 5, 2) := by decide +kernel
theorem dX1_build_42 : decode cX1_build 42 = .ok (.iload_n 3, 1) := by decide +kernel
theorem dX1_build_43 : decode cX1_build 43 = .ok (.iastore, 1) := by decide +kernel
theorem dX1_build_44 : decode cX1_build 44 = .ok (.iload 4, 2) := by decide +kernel
theorem dX1_build_46 : decode cX1_build 46 = .ok (.ifCond .eq 16, 3) := by decide +kernel
theorem dX1_build_49 : decode cX1_build 49 = .ok (.aload_n 0, 1) := by decide +kernel
theorem dX1_build_50 : decode cX1_build 50 = .ok (.dup, 1) := by decide +kernel
theorem dX1_build_51 : decode cX1_build 51 = .ok (.getfield 70, 3) := by decide +kernel
theorem dX1_build_54 : decode cX1_build 54 = .ok (.iconst 1, 1) := by decide +kernel
theorem dX1_build_55 : decode cX1_build 55 = .ok (.iload 5, 2) := by decide +kernel
theorem dX1_build_57 : decode cX1_build 57 = .ok (.ishl, 1) := by decide +kernel
theorem dX1_build_58 : decode cX1_build 58 = .ok (.ior, 1) := by decide +kernel
theorem dX1_build_59 : decode cX1_build 59 = .ok (.putfield 70, 3) := by decide +kernel
theorem dX1_build_62 : decode cX1_build 62 = .ok (.aload_n 0, 1) := by decide +kernel
theorem dX1_build_63 : decode cX1_build 63 = .ok (.dup, 1) := by decide +kernel
theorem dX1_build_64 : decode cX1_build 64 = .ok (.getfield 55, 3) := by decide +kernel
theorem dX1_build_67 : decode cX1_build 67 = .ok (.iconst 1, 1) := by decide +kernel
theorem dX1_build_68 : decode cX1_build 68 = .ok (.iadd, 1) := by decide +kernel
theorem dX1_build_69 : decode cX1_build 69 = .ok (.putfield 55, 3) := by decide +kernel
theorem dX1_build_72 : decode cX1_build 72 = .ok (.iload 5, 2) := by decide +kernel
theorem dX1_build_74 : decode cX1_build 74 = .ok (.ireturn, 1) := by decide +kernel
theorem dX1_put_0 : decode cX1_put 0 = .ok (.aload_n 0, 1) := by decide +kernel
theorem dX1_put_1 : decode cX1_put 1 = .ok (.getfield 27, 3) := by decide +kernel
theorem dX1_put_4 : decode cX1_put 4 = .ok (.iload_n 1, 1) := by decide +kernel
theorem dX1_put_5 : decode cX1_put 5 = .ok (.iload_n 2, 1) := by decide +kernel
theorem dX1_put_6 : decode cX1_put 6 = .ok (.iastore, 1) := by decide +kernel
theorem dX1_put_7 : decode cX1_put 7 = .ok (.aload_n 0, 1) := by decide +kernel
theorem dX1_put_8 : decode cX1_put 8 = .ok (.getfield 30, 3) := by decide +kernel
theorem dX1_put_11 : decode cX1_put 11 = .ok (.iload_n 1, 1) := by decide +kernel
theorem dX1_put_12 : decode cX1_put 12 = .ok (.dup2, 1) := by decide +kernel
theorem dX1_put_13 : decode cX1_put 13 = .ok (.iaload, 1) := by decide +kernel
theorem dX1_put_14 : decode cX1_put 14 = .ok (.iconst 1, 1) := by decide +kernel
theorem dX1_put_15 : decode cX1_put 15 = .ok (.iload_n 2, 1) := by decide +kernel
theorem dX1_put_16 : decode cX1_put 16 = .ok (.ishl, 1) := by decide +kernel
theorem dX1_put_17 : decode cX1_put 17 = .ok (.ior, 1) := by decide +kernel
theorem dX1_put_18 : decode cX1_put 18 = .ok (.iastore, 1) := by decide +kernel
theorem dX1_put_19 : decode cX1_put 19 = .ok (.return_, 1) := by decide +kernel
theorem dX1_settle_0 : decode cX1_settle 0 = .ok (.aload_n 0, 1) := by decide +kernel
theorem dX1_settle_1 : decode cX1_settle 1 = .ok (.getfield 58, 3) := by decide +kernel
theorem dX1_settle_4 : decode cX1_settle 4 = .ok (.istore_n 2, 1) := by decide +kernel
theorem dX1_settle_5 : decode cX1_settle 5 = .ok (.aload_n 0, 1) := by decide +kernel
theorem dX1_settle_6 : decode cX1_settle 6 = .ok (.getfield 24, 3) := by decide +kernel
theorem dX1_settle_9 : decode cX1_settle 9 = .ok (.iload_n 2, 1) := by decide +kernel
theorem dX1_settle_10 : decode cX1_settle 10 = .ok (.iload_n 1, 1) := by decide +kernel
theorem dX1_settle_11 : decode cX1_settle 11 = .ok (.iastore, 1) := by decide +kernel
theorem dX1_settle_12 : decode cX1_settle 12 = .ok (.aload_n 0, 1) := by decide +kernel
theorem dX1_settle_13 : decode cX1_settle 13 = .ok (.dup, 1) := by decide +kernel
theorem dX1_settle_14 : decode cX1_settle 14 = .ok (.getfield 58, 3) := by decide +kernel
theorem dX1_settle_17 : decode cX1_settle 17 = .ok (.iconst 1, 1) := by decide +kernel
theorem dX1_settle_18 : decode cX1_settle 18 = .ok (.iadd, 1) := by decide +kernel
theorem dX1_settle_19 : decode cX1_settle 19 = .ok (.putfield 58, 3) := by decide +kernel
theorem dX1_settle_22 : decode cX1_settle 22 = .ok (.aload_n 0, 1) := by decide +kernel
theorem dX1_settle_23 : decode cX1_settle 23 = .ok (.iload_n 2, 1) := by decide +kernel
theorem dX1_settle_24 : decode cX1_settle 24 = .ok (.iload_n 1, 1) := by decide +kernel
theorem dX1_settle_25 : decode cX1_settle 25 = .ok (.invokevirtual 76, 3) := by decide +kernel
theorem dX1_settle_28 : decode cX1_settle 28 = .ok (.iload_n 2, 1) := by decide +kernel
theorem dX1_settle_29 : decode cX1_settle 29 = .ok (.ireturn, 1) := by decide +kernel
theorem dX1_become_0 : decode cX1_become 0 = .ok (.aload_n 1, 1) := by decide +kernel
theorem dX1_become_1 : decode cX1_become 1 = .ok (.getfield 9, 3) := by decide +kernel
theorem dX1_become_4 : decode cX1_become 4 = .ok (.iconst 0, 1) := by decide +kernel
theorem dX1_become_5 : decode cX1_become 5 = .ok (.aload_n 0, 1) := by decide +kernel
theorem dX1_become_6 : decode cX1_become 6 = .ok (.getfield 9, 3) := by decide +kernel
theorem dX1_become_9 : decode cX1_become 9 = .ok (.iconst 0, 1) := by decide +kernel
theorem dX1_become_10 : decode cX1_become 10 = .ok (.bipush 16, 2) := by decide +kernel
theorem dX1_become_12 : decode cX1_become 12 = .ok (.invokestatic 49, 3) := by decide +kernel
theorem dX1_become_15 : decode cX1_become 15 = .ok (.aload_n 1, 1) := by decide +kernel
theorem dX1_become_16 : decode cX1_become 16 = .ok (.getfield 15, 3) := by decide +kernel
theorem dX1_become_19 : decode cX1_become 19 = .ok (.iconst 0, 1) := by decide +kernel
theorem dX1_become_20 : decode cX1_become 20 = .ok (.aload_n 0, 1) := by decide +kernel
theorem dX1_become_21 : decode cX1_become 21 = .ok (.getfield 15, 3) := by decide +kernel
theorem dX1_become_24 : decode cX1_become 24 = .ok (.iconst 0, 1) := by decide +kernel
theorem dX1_become_25 : decode cX1_become 25 = .ok (.bipush 16, 2) := by decide +kernel
theorem dX1_become_27 : decode cX1_become 27 = .ok (.invokestatic 49, 3) := by decide +kernel
theorem dX1_become_30 : decode cX1_become 30 = .ok (.aload_n 1, 1) := by decide +kernel
theorem dX1_become_31 : decode cX1_become 31 = .ok (.getfield 18, 3) := by decide +kernel
theorem dX1_become_34 : decode cX1_become 34 = .ok (.iconst 0, 1) := by decide +kernel
theorem dX1_become_35 : decode cX1_become 35 = .ok (.aload_n 0, 1) := by decide +kernel
theorem dX1_become_36 : decode cX1_become 36 = .ok (.getfield 18, 3) := by decide +kernel
theorem dX1_become_39 : decode cX1_become 39 = .ok (.iconst 0, 1) := by decide +kernel
theorem dX1_become_40 : decode cX1_become 40 = .ok (.bipush 16, 2) := by decide +kernel
theorem dX1_become_42 : decode cX1_become 42 = .ok (.invokestatic 49, 3) := by decide +kernel
theorem dX1_become_45 : decode cX1_become 45 = .ok (.aload_n 1, 1) := by decide +kernel
theorem dX1_become_46 : decode cX1_become 46 = .ok (.getfield 21, 3) := by decide +kernel
theorem dX1_become_49 : decode cX1_become 49 = .ok (.iconst 0, 1) := by decide +kernel
theorem dX1_become_50 : decode cX1_become 50 = .ok (.aload_n 0, 1) := by decide +kernel
theorem dX1_become_51 : decode cX1_become 51 = .ok (.getfield 21, 3) := by decide +kernel
theorem dX1_become_54 : decode cX1_become 54 = .ok (.iconst 0, 1) := by decide +kernel
theorem dX1_become_55 : decode cX1_become 55 = .ok (.bipush 16, 2) := by decide +kernel
theorem dX1_become_57 : decode cX1_become 57 = .ok (.invokestatic 49, 3) := by decide +kernel
theorem dX1_become_60 : decode cX1_become 60 = .ok (.aload_n 1, 1) := by decide +kernel
theorem dX1_become_61 : decode cX1_become 61 = .ok (.getfield 24, 3) := by decide +kernel
theorem dX1_become_64 : decode cX1_become 64 = .ok (.iconst 0, 1) := by decide +kernel
theorem dX1_become_65 : decode cX1_become 65 = .ok (.aload_n 0, 1) := by decide +kernel
theorem dX1_become_66 : decode cX1_become 66 = .ok (.getfield 24, 3) := by decide +kernel
theorem dX1_become_69 : decode cX1_become 69 = .ok (.iconst 0, 1) := by decide +kernel
theorem dX1_become_70 : decode cX1_become 70 = .ok (.bipush 6, 2) := by decide +kernel
theorem dX1_become_72 : decode cX1_become 72 = .ok (.invokestatic 49, 3) := by decide +kernel
theorem dX1_become_75 : decode cX1_become 75 = .ok (.aload_n 1, 1) := by decide +kernel
theorem dX1_become_76 : decode cX1_become 76 = .ok (.getfield 27, 3) := by decide +kernel
theorem dX1_become_79 : decode cX1_become 79 = .ok (.iconst 0, 1) := by decide +kernel
theorem dX1_become_80 : decode cX1_become 80 = .ok (.aload_n 0, 1) := by decide +kernel
theorem dX1_become_81 : decode cX1_become 81 = .ok (.getfield 27, 3) := by decide +kernel
theorem dX1_become_84 : decode cX1_become 84 = .ok (.iconst 0, 1) := by decide +kernel
theorem dX1_become_85 : decode cX1_become 85 = .ok (.bipush 6, 2) := by decide +kernel
theorem dX1_become_87 : decode cX1_become 87 = .ok (.invokestatic 49, 3) := by decide +kernel
theorem dX1_become_90 : decode cX1_become 90 = .ok (.aload_n 1, 1) := by decide +kernel
theorem dX1_become_91 : decode cX1_become 91 = .ok (.getfield 30, 3) := by decide +kernel
theorem dX1_become_94 : decode cX1_become 94 = .ok (.iconst 0, 1) := by decide +kernel
theorem dX1_become_95 : decode cX1_become 95 = .ok (.aload_n 0, 1) := by decide +kernel
theorem dX1_become_96 : decode cX1_become 96 = .ok (.getfield 30, 3) := by decide +kernel
theorem dX1_become_99 : decode cX1_become 99 = .ok (.iconst 0, 1) := by decide +kernel
theorem dX1_become_100 : decode cX1_become 100 = .ok (.bipush 6, 2) := by decide +kernel
theorem dX1_become_102 : decode cX1_become 102 = .ok (.invokestatic 49, 3) := by decide +kernel
theorem dX1_become_105 : decode cX1_become 105 = .ok (.aload_n 1, 1) := by decide +kernel
theorem dX1_become_106 : decode cX1_become 106 = .ok (.getfield 33, 3) := by decide +kernel
theorem dX1_become_109 : decode cX1_become 109 = .ok (.iconst 0, 1) := by decide +kernel
theorem dX1_become_110 : decode cX1_become 110 = .ok (.aload_n 0, 1) := by decide +kernel
theorem dX1_become_111 : decode cX1_become 111 = .ok (.getfield 33, 3) := by decide +kernel
theorem dX1_become_114 : decode cX1_become 114 = .ok (.iconst 0, 1) := by decide +kernel
theorem dX1_become_115 : decode cX1_become 115 = .ok (.bipush 6, 2) := by decide +kernel
theorem dX1_become_117 : decode cX1_become 117 = .ok (.invokestatic 49, 3) := by decide +kernel
theorem dX1_become_120 : decode cX1_become 120 = .ok (.aload_n 1, 1) := by decide +kernel
theorem dX1_become_121 : decode cX1_become 121 = .ok (.getfield 36, 3) := by decide +kernel
theorem dX1_become_124 : decode cX1_become 124 = .ok (.iconst 0, 1) := by decide +kernel
theorem dX1_become_125 : decode cX1_become 125 = .ok (.aload_n 0, 1) := by decide +kernel
theorem dX1_become_126 : decode cX1_become 126 = .ok (.getfield 36, 3) := by decide +kernel
theorem dX1_become_129 : decode cX1_become 129 = .ok (.iconst 0, 1) := by decide +kernel
theorem dX1_become_130 : decode cX1_become 130 = .ok (.bipush 96, 2) := by decide +kernel
theorem dX1_become_132 : decode cX1_become 132 = .ok (.invokestatic 49, 3) := by decide +kernel
theorem dX1_become_135 : decode cX1_become 135 = .ok (.aload_n 0, 1) := by decide +kernel
theorem dX1_become_136 : decode cX1_become 136 = .ok (.aload_n 1, 1) := by decide +kernel
theorem dX1_become_137 : decode cX1_become 137 = .ok (.getfield 55, 3) := by decide +kernel
theorem dX1_become_140 : decode cX1_become 140 = .ok (.putfield 55, 3) := by decide +kernel
theorem dX1_become_143 : decode cX1_become 143 = .ok (.aload_n 0, 1) := by decide +kernel
theorem dX1_become_144 : decode cX1_become 144 = .ok (.aload_n 1, 1) := by decide +kernel
theorem dX1_become_145 : decode cX1_become 145 = .ok (.getfield 58, 3) := by decide +kernel
theorem dX1_become_148 : decode cX1_become 148 = .ok (.putfield 58, 3) := by decide +kernel
theorem dX1_become_151 : decode cX1_become 151 = .ok (.aload_n 0, 1) := by decide +kernel
theorem dX1_become_152 : decode cX1_become 152 = .ok (.aload_n 1, 1) := by decide +kernel
theorem dX1_become_153 : decode cX1_become 153 = .ok (.getfield 61, 3) := by decide +kernel
theorem dX1_become_156 : decode cX1_become 156 = .ok (.putfield 61, 3) := by decide +kernel
theorem dX1_become_159 : decode cX1_become 159 = .ok (.aload_n 0, 1) := by decide +kernel
theorem dX1_become_160 : decode cX1_become 160 = .ok (.aload_n 1, 1) := by decide +kernel
theorem dX1_become_161 : decode cX1_become 161 = .ok (.getfield 64, 3) := by decide +kernel
theorem dX1_become_164 : decode cX1_become 164 = .ok (.putfield 64, 3) := by decide +kernel
theorem dX1_become_167 : decode cX1_become 167 = .ok (.aload_n 0, 1) := by decide +kernel
theorem dX1_become_168 : decode cX1_become 168 = .ok (.aload_n 1, 1) := by decide +kernel
theorem dX1_become_169 : decode cX1_become 169 = .ok (.getfield 39, 3) := by decide +kernel
theorem dX1_become_172 : decode cX1_become 172 = .ok (.putfield 39, 3) := by decide +kernel
theorem dX1_become_175 : decode cX1_become 175 = .ok (.aload_n 0, 1) := by decide +kernel
theorem dX1_become_176 : decode cX1_become 176 = .ok (.aload_n 1, 1) := by decide +kernel
theorem dX1_become_177 : decode cX1_become 177 = .ok (.getfield 67, 3) := by decide +kernel
theorem dX1_become_180 : decode cX1_become 180 = .ok (.putfield 67, 3) := by decide +kernel
theorem dX1_become_183 : decode cX1_become 183 = .ok (.aload_n 0, 1) := by decide +kernel
theorem dX1_become_184 : decode cX1_become 184 = .ok (.aload_n 1, 1) := by decide +kernel
theorem dX1_become_185 : decode cX1_become 185 = .ok (.getfield 70, 3) := by decide +kernel
theorem dX1_become_188 : decode cX1_become 188 = .ok (.putfield 70, 3) := by decide +kernel
theorem dX1_become_191 : decode cX1_become 191 = .ok (.aload_n 0, 1) := by decide +kernel
theorem dX1_become_192 : decode cX1_become 192 = .ok (.aload_n 1, 1) := by decide +kernel
theorem dX1_become_193 : decode cX1_become 193 = .ok (.getfield 73, 3) := by decide +kernel
theorem dX1_become_196 : decode cX1_become 196 = .ok (.putfield 73, 3) := by decide +kernel
theorem dX1_become_199 : decode cX1_become 199 = .ok (.return_, 1) := by decide +kernel
theorem dX1_goneInAll_0 : decode cX1_goneInAll 0 = .ok (.iconst 0, 1) := by decide +kernel
theorem dX1_goneInAll_1 : decode cX1_goneInAll 1 = .ok (.istore_n 1, 1) := by decide +kernel
theorem dX1_goneInAll_2 : decode cX1_goneInAll 2 = .ok (.iconst 0, 1) := by decide +kernel
theorem dX1_goneInAll_3 : decode cX1_goneInAll 3 = .ok (.istore_n 2, 1) := by decide +kernel
theorem dX1_goneInAll_4 : decode cX1_goneInAll 4 = .ok (.iload_n 2, 1) := by decide +kernel
theorem dX1_goneInAll_5 : decode cX1_goneInAll 5 = .ok (.aload_n 0, 1) := by decide +kernel
theorem dX1_goneInAll_6 : decode cX1_goneInAll 6 = .ok (.getfield 58, 3) := by decide +kernel
theorem dX1_goneInAll_9 : decode cX1_goneInAll 9 = .ok (.if_icmp .ge 18, 3) := by decide +kernel
theorem dX1_goneInAll_27 : decode cX1_goneInAll 27 = .ok (.iload_n 1, 1) := by decide +kernel
theorem dX1_goneInAll_28 : decode cX1_goneInAll 28 = .ok (.ireturn, 1) := by decide +kernel
theorem dX4_append_0 : decode cX4_append 0 = .ok (.iload_n 2, 1) := by decide +kernel
theorem dX4_append_1 : decode cX4_append 1 = .ok (.iconst 1, 1) := by decide +kernel
theorem dX4_append_2 : decode cX4_append 2 = .ok (.isub, 1) := by decide +kernel
theorem dX4_append_3 : decode cX4_append 3 = .ok (.istore_n 3, 1) := by decide +kernel
theorem dX4_append_4 : decode cX4_append 4 = .ok (.iload_n 3, 1) := by decide +kernel
theorem dX4_append_5 : decode cX4_append 5 = .ok (.ifCond .lt 48, 3) := by decide +kernel
theorem dX4_append_8 : decode cX4_append 8 = .ok (.aload_n 0, 1) := by decide +kernel
theorem dX4_append_9 : decode cX4_append 9 = .ok (.getfield 19, 3) := by decide +kernel
theorem dX4_append_12 : decode cX4_append 12 = .ok (.sipush 250, 3) := by decide +kernel
theorem dX4_append_15 : decode cX4_append 15 = .ok (.if_icmp .ge 38, 3) := by decide +kernel
theorem dX4_append_18 : decode cX4_append 18 = .ok (.aload_n 0, 1) := by decide +kernel
theorem dX4_append_19 : decode cX4_append 19 = .ok (.getfield 9, 3) := by decide +kernel
theorem dX4_append_22 : decode cX4_append 22 = .ok (.aload_n 0, 1) := by decide +kernel
theorem dX4_append_23 : decode cX4_append 23 = .ok (.getfield 19, 3) := by decide +kernel
theorem dX4_append_26 : decode cX4_append 26 = .ok (.iload_n 1, 1) := by decide +kernel
theorem dX4_append_27 : decode cX4_append 27 = .ok (.bipush 8, 2) := by decide +kernel
theorem dX4_append_29 : decode cX4_append 29 = .ok (.iload_n 3, 1) := by decide +kernel
theorem dX4_append_30 : decode cX4_append 30 = .ok (.imul, 1) := by decide +kernel
theorem dX4_append_31 : decode cX4_append 31 = .ok (.ishr, 1) := by decide +kernel
theorem dX4_append_32 : decode cX4_append 32 = .ok (.sipush 255, 3) := by decide +kernel
theorem dX4_append_35 : decode cX4_append 35 = .ok (.iand, 1) := by decide +kernel
theorem dX4_append_36 : decode cX4_append 36 = .ok (.iastore, 1) := by decide +kernel
theorem dX4_append_37 : decode cX4_append 37 = .ok (.aload_n 0, 1) := by decide +kernel
theorem dX4_append_38 : decode cX4_append 38 = .ok (.dup, 1) := by decide +kernel
theorem dX4_append_39 : decode cX4_append 39 = .ok (.getfield 19, 3) := by decide +kernel
theorem dX4_append_42 : decode cX4_append 42 = .ok (.iconst 1, 1) := by decide +kernel
theorem dX4_append_43 : decode cX4_append 43 = .ok (.iadd, 1) := by decide +kernel
theorem dX4_append_44 : decode cX4_append 44 = .ok (.putfield 19, 3) := by decide +kernel
theorem dX4_append_47 : decode cX4_append 47 = .ok (.iinc 3 (-1), 3) := by decide +kernel
theorem dX4_append_50 : decode cX4_append 50 = .ok (.goto (-46), 3) := by decide +kernel
theorem dX4_append_53 : decode cX4_append 53 = .ok (.return_, 1) := by decide +kernel
theorem dX4_sortAt_0 : decode cX4_sortAt 0 = .ok (.iload_n 1, 1) := by decide +kernel
theorem dX4_sortAt_1 : decode cX4_sortAt 1 = .ok (.ifCond .lt 11, 3) := by decide +kernel
theorem dX4_sortAt_4 : decode cX4_sortAt 4 = .ok (.iload_n 1, 1) := by decide +kernel
theorem dX4_sortAt_5 : decode cX4_sortAt 5 = .ok (.aload_n 0, 1) := by decide +kernel
theorem dX4_sortAt_6 : decode cX4_sortAt 6 = .ok (.getfield 19, 3) := by decide +kernel
theorem dX4_sortAt_9 : decode cX4_sortAt 9 = .ok (.if_icmp .lt 5, 3) := by decide +kernel
theorem dX4_sortAt_12 : decode cX4_sortAt 12 = .ok (.iconst 0, 1) := by decide +kernel
theorem dX4_sortAt_13 : decode cX4_sortAt 13 = .ok (.ireturn, 1) := by decide +kernel
theorem dX4_advance_0 : decode cX4_advance 0 = .ok (.aload_n 0, 1) := by decide +kernel
theorem dX4_advance_1 : decode cX4_advance 1 = .ok (.aload_n 0, 1) := by decide +kernel
theorem dX4_advance_2 : decode cX4_advance 2 = .ok (.getfield 22, 3) := by decide +kernel
theorem dX4_advance_5 : decode cX4_advance 5 = .ok (.putfield 108, 3) := by decide +kernel
theorem dX4_advance_8 : decode cX4_advance 8 = .ok (.aload_n 0, 1) := by decide +kernel
theorem dX4_advance_9 : decode cX4_advance 9 = .ok (.getfield 108, 3) := by decide +kernel
theorem dX4_advance_12 : decode cX4_advance 12 = .ok (.aload_n 0, 1) := by decide +kernel
theorem dX4_advance_13 : decode cX4_advance 13 = .ok (.getfield 19, 3) := by decide +kernel
theorem dX4_advance_16 : decode cX4_advance 16 = .ok (.if_icmp .ge 30, 3) := by decide +kernel
theorem dX4_advance_46 : decode cX4_advance 46 = .ok (.aload_n 0, 1) := by decide +kernel
theorem dX4_advance_47 : decode cX4_advance 47 = .ok (.aload_n 0, 1) := by decide +kernel
theorem dX4_advance_48 : decode cX4_advance 48 = .ok (.getfield 108, 3) := by decide +kernel
theorem dX4_advance_51 : decode cX4_advance 51 = .ok (.putfield 22, 3) := by decide +kernel
theorem dX4_advance_54 : decode cX4_advance 54 = .ok (.aload_n 0, 1) := by decide +kernel
theorem dX4_advance_55 : decode cX4_advance 55 = .ok (.aload_n 0, 1) := by decide +kernel
theorem dX4_advance_56 : decode cX4_advance 56 = .ok (.aload_n 0, 1) := by decide +kernel
theorem dX4_advance_57 : decode cX4_advance 57 = .ok (.getfield 108, 3) := by decide +kernel
theorem dX4_advance_60 : decode cX4_advance 60 = .ok (.invokevirtual 124, 3) := by decide +kernel
theorem dX4_advance_63 : decode cX4_advance 63 = .ok (.putfield 32, 3) := by decide +kernel
theorem dX4_advance_66 : decode cX4_advance 66 = .ok (.aload_n 0, 1) := by decide +kernel
theorem dX4_advance_67 : decode cX4_advance 67 = .ok (.getfield 32, 3) := by decide +kernel
theorem dX4_advance_70 : decode cX4_advance 70 = .ok (.iconst 3, 1) := by decide +kernel
theorem dX4_advance_71 : decode cX4_advance 71 = .ok (.if_icmp .eq 11, 3) := by decide +kernel
theorem dX4_advance_74 : decode cX4_advance 74 = .ok (.aload_n 0, 1) := by decide +kernel
theorem dX4_advance_75 : decode cX4_advance 75 = .ok (.getfield 32, 3) := by decide +kernel
theorem dX4_advance_78 : decode cX4_advance 78 = .ok (.iconst 4, 1) := by decide +kernel
theorem dX4_advance_79 : decode cX4_advance 79 = .ok (.if_icmp .ne 13, 3) := by decide +kernel
theorem dX4_advance_92 : decode cX4_advance 92 = .ok (.aload_n 0, 1) := by decide +kernel
theorem dX4_advance_93 : decode cX4_advance 93 = .ok (.getfield 32, 3) := by decide +kernel
theorem dX4_advance_96 : decode cX4_advance 96 = .ok (.iconst 1, 1) := by decide +kernel
theorem dX4_advance_97 : decode cX4_advance 97 = .ok (.if_icmp .eq 11, 3) := by decide +kernel
theorem dX4_advance_100 : decode cX4_advance 100 = .ok (.aload_n 0, 1) := by decide +kernel
theorem dX4_advance_101 : decode cX4_advance 101 = .ok (.getfield 32, 3) := by decide +kernel
theorem dX4_advance_104 : decode cX4_advance 104 = .ok (.iconst 2, 1) := by decide +kernel
theorem dX4_advance_105 : decode cX4_advance 105 = .ok (.if_icmp .ne 42, 3) := by decide +kernel
theorem dX4_advance_147 : decode cX4_advance 147 = .ok (.return_, 1) := by decide +kernel
theorem dX4_takes_0 : decode cX4_takes 0 = .ok (.aload_n 0, 1) := by decide +kernel
theorem dX4_takes_1 : decode cX4_takes 1 = .ok (.getfield 15, 3) := by decide +kernel
theorem dX4_takes_4 : decode cX4_takes 4 = .ok (.iconst (-1), 1) := by decide +kernel
theorem dX4_takes_5 : decode cX4_takes 5 = .ok (.if_icmp .ne 31, 3) := by decide +kernel
theorem dX4_takes_8 : decode cX4_takes 8 = .ok (.iload_n 2, 1) := by decide +kernel
theorem dX4_takes_9 : decode cX4_takes 9 = .ok (.ifCond .eq 27, 3) := by decide +kernel
theorem dX4_takes_12 : decode cX4_takes 12 = .ok (.aload_n 0, 1) := by decide +kernel
theorem dX4_takes_13 : decode cX4_takes 13 = .ok (.getfield 32, 3) := by decide +kernel
theorem dX4_takes_16 : decode cX4_takes 16 = .ok (.iconst 1, 1) := by decide +kernel
theorem dX4_takes_17 : decode cX4_takes 17 = .ok (.if_icmp .ne 19, 3) := by decide +kernel
theorem dX4_takes_36 : decode cX4_takes 36 = .ok (.iconst 0, 1) := by decide +kernel
theorem dX4_takes_37 : decode cX4_takes 37 = .ok (.ireturn, 1) := by decide +kernel
theorem dX4_stopHere_0 : decode cX4_stopHere 0 = .ok (.aload_n 0, 1) := by decide +kernel
theorem dX4_stopHere_1 : decode cX4_stopHere 1 = .ok (.getfield 15, 3) := by decide +kernel
theorem dX4_stopHere_4 : decode cX4_stopHere 4 = .ok (.iconst (-1), 1) := by decide +kernel
theorem dX4_stopHere_5 : decode cX4_stopHere 5 = .ok (.if_icmp .ne 11, 3) := by decide +kernel
theorem dX4_stopHere_8 : decode cX4_stopHere 8 = .ok (.aload_n 0, 1) := by decide +kernel
theorem dX4_stopHere_9 : decode cX4_stopHere 9 = .ok (.aload_n 0, 1) := by decide +kernel
theorem dX4_stopHere_10 : decode cX4_stopHere 10 = .ok (.getfield 108, 3) := by decide +kernel
theorem dX4_stopHere_13 : decode cX4_stopHere 13 = .ok (.putfield 15, 3) := by decide +kernel
theorem dX4_stopHere_16 : decode cX4_stopHere 16 = .ok (.return_, 1) := by decide +kernel
theorem dX4_readStatement_0 : decode cX4_readStatement 0 = .ok (.aload_n 0, 1) := by decide +kernel
theorem dX4_readStatement_1 : decode cX4_readStatement 1 = .ok (.ldc 38, 2) := by decide +kernel
theorem dX4_readStatement_3 : decode cX4_readStatement 3 = .ok (.aload_n 1, 1) := by decide +kernel
theorem dX4_readStatement_4 : decode cX4_readStatement 4 = .ok (.getfield 40, 3) := by decide +kernel
theorem dX4_readStatement_7 : decode cX4_readStatement 7 = .ok (.bipush 16, 2) := by decide +kernel
theorem dX4_readStatement_9 : decode cX4_readStatement 9 = .ok (.if_icmp .ge 7, 3) := by decide +kernel
theorem dX4_readStatement_12 : decode cX4_readStatement 12 = .ok (.iconst 1, 1) := by decide +kernel
theorem dX4_readStatement_13 : decode cX4_readStatement 13 = .ok (.goto 4, 3) := by decide +kernel
theorem dX4_readStatement_17 : decode cX4_readStatement 17 = .ok (.invokevirtual 45, 3) := by decide +kernel
theorem dX4_readStatement_20 : decode cX4_readStatement 20 = .ok (.ifCond .eq 11, 3) := by decide +kernel
theorem dX4_readStatement_31 : decode cX4_readStatement 31 = .ok (.aload_n 0, 1) := by decide +kernel
theorem dX4_readStatement_32 : decode cX4_readStatement 32 = .ok (.ldc 52, 2) := by decide +kernel
theorem dX4_readStatement_34 : decode cX4_readStatement 34 = .ok (.aload_n 1, 1) := by decide +kernel
theorem dX4_readStatement_35 : decode cX4_readStatement 35 = .ok (.getfield 54, 3) := by decide +kernel
theorem dX4_readStatement_38 : decode cX4_readStatement 38 = .ok (.bipush 6, 2) := by decide +kernel
theorem dX4_readStatement_40 : decode cX4_readStatement 40 = .ok (.if_icmp .ge 7, 3) := by decide +kernel
theorem dX4_readStatement_43 : decode cX4_readStatement 43 = .ok (.iconst 1, 1) := by decide +kernel
theorem dX4_readStatement_44 : decode cX4_readStatement 44 = .ok (.goto 4, 3) := by decide +kernel
theorem dX4_readStatement_48 : decode cX4_readStatement 48 = .ok (.invokevirtual 45, 3) := by decide +kernel
theorem dX4_readStatement_51 : decode cX4_readStatement 51 = .ok (.ifCond .eq 11, 3) := by decide +kernel
theorem dX4_readStatement_62 : decode cX4_readStatement 62 = .ok (.aload_n 0, 1) := by decide +kernel
theorem dX4_readStatement_63 : decode cX4_readStatement 63 = .ok (.ldc 60, 2) := by decide +kernel
theorem dX4_readStatement_65 : decode cX4_readStatement 65 = .ok (.iconst 1, 1) := by decide +kernel
theorem dX4_readStatement_66 : decode cX4_readStatement 66 = .ok (.invokevirtual 45, 3) := by decide +kernel
theorem dX4_readStatement_69 : decode cX4_readStatement 69 = .ok (.ifCond .eq 11, 3) := by decide +kernel
theorem dX4_readStatement_80 : decode cX4_readStatement 80 = .ok (.aload_n 0, 1) := by decide +kernel
theorem dX4_readStatement_81 : decode cX4_readStatement 81 = .ok (.ldc 65, 2) := by decide +kernel
theorem dX4_readStatement_83 : decode cX4_readStatement 83 = .ok (.iconst 1, 1) := by decide +kernel
theorem dX4_readStatement_84 : decode cX4_readStatement 84 = .ok (.invokevirtual 45, 3) := by decide +kernel
theorem dX4_readStatement_87 : decode cX4_readStatement 87 = .ok (.ifCond .eq 11, 3) := by decide +kernel
theorem dX4_readStatement_98 : decode cX4_readStatement 98 = .ok (.aload_n 0, 1) := by decide +kernel
theorem dX4_readStatement_99 : decode cX4_readStatement 99 = .ok (.ldc 70, 2) := by decide +kernel
theorem dX4_readStatement_101 : decode cX4_readStatement 101 = .ok (.iconst 1, 1) := by decide +kernel
theorem dX4_readStatement_102 : decode cX4_readStatement 102 = .ok (.invokevirtual 45, 3) := by decide +kernel
theorem dX4_readStatement_105 : decode cX4_readStatement 105 = .ok (.ifCond .eq 11, 3) := by decide +kernel
theorem dX4_readStatement_116 : decode cX4_readStatement 116 = .ok (.aload_n 0, 1) := by decide +kernel
theorem dX4_readStatement_117 : decode cX4_readStatement 117 = .ok (.ldc 75, 2) := by decide +kernel
theorem dX4_readStatement_119 : decode cX4_readStatement 119 = .ok (.iconst 1, 1) := by decide +kernel
theorem dX4_readStatement_120 : decode cX4_readStatement 120 = .ok (.invokevirtual 45, 3) := by decide +kernel
theorem dX4_readStatement_123 : decode cX4_readStatement 123 = .ok (.ifCond .eq 11, 3) := by decide +kernel
theorem dX4_readStatement_134 : decode cX4_readStatement 134 = .ok (.aload_n 0, 1) := by decide +kernel
theorem dX4_readStatement_135 : decode cX4_readStatement 135 = .ok (.invokevirtual 35, 3) := by decide +kernel
theorem dX4_readStatement_138 : decode cX4_readStatement 138 = .ok (.return_, 1) := by decide +kernel
theorem dX4_readOnto_0 : decode cX4_readOnto 0 = .ok (.aload_n 0, 1) := by decide +kernel
theorem dX4_readOnto_1 : decode cX4_readOnto 1 = .ok (.iconst (-1), 1) := by decide +kernel
theorem dX4_readOnto_2 : decode cX4_readOnto 2 = .ok (.putfield 15, 3) := by decide +kernel
theorem dX4_readOnto_5 : decode cX4_readOnto 5 = .ok (.aload_n 0, 1) := by decide +kernel
theorem dX4_readOnto_6 : decode cX4_readOnto 6 = .ok (.iconst 0, 1) := by decide +kernel
theorem dX4_readOnto_7 : decode cX4_readOnto 7 = .ok (.putfield 22, 3) := by decide +kernel
theorem dX4_readOnto_10 : decode cX4_readOnto 10 = .ok (.aload_n 0, 1) := by decide +kernel
theorem dX4_readOnto_11 : decode cX4_readOnto 11 = .ok (.invokevirtual 25, 3) := by decide +kernel
theorem dX4_readOnto_14 : decode cX4_readOnto 14 = .ok (.iconst 0, 1) := by decide +kernel
theorem dX4_readOnto_15 : decode cX4_readOnto 15 = .ok (.istore_n 2, 1) := by decide +kernel
theorem dX4_readOnto_16 : decode cX4_readOnto 16 = .ok (.iconst 1, 1) := by decide +kernel
theorem dX4_readOnto_17 : decode cX4_readOnto 17 = .ok (.istore_n 3, 1) := by decide +kernel
theorem dX4_readOnto_18 : decode cX4_readOnto 18 = .ok (.iconst 0, 1) := by decide +kernel
theorem dX4_readOnto_19 : decode cX4_readOnto 19 = .ok (.istore 4, 2) := by decide +kernel
theorem dX4_readOnto_21 : decode cX4_readOnto 21 = .ok (.iload 4, 2) := by decide +kernel
theorem dX4_readOnto_23 : decode cX4_readOnto 23 = .ok (.sipush 250, 3) := by decide +kernel
theorem dX4_readOnto_26 : decode cX4_readOnto 26 = .ok (.if_icmp .ge 51, 3) := by decide +kernel
theorem dX4_readOnto_29 : decode cX4_readOnto 29 = .ok (.iload_n 3, 1) := by decide +kernel
theorem dX4_readOnto_30 : decode cX4_readOnto 30 = .ok (.ifCond .eq 47, 3) := by decide +kernel
theorem dX4_readOnto_33 : decode cX4_readOnto 33 = .ok (.aload_n 0, 1) := by decide +kernel
theorem dX4_readOnto_34 : decode cX4_readOnto 34 = .ok (.aload_n 1, 1) := by decide +kernel
theorem dX4_readOnto_35 : decode cX4_readOnto 35 = .ok (.invokevirtual 28, 3) := by decide +kernel
theorem dX4_readOnto_38 : decode cX4_readOnto 38 = .ok (.iinc 2 1, 3) := by decide +kernel
theorem dX4_readOnto_41 : decode cX4_readOnto 41 = .ok (.aload_n 0, 1) := by decide +kernel
theorem dX4_readOnto_42 : decode cX4_readOnto 42 = .ok (.getfield 15, 3) := by decide +kernel
theorem dX4_readOnto_45 : decode cX4_readOnto 45 = .ok (.iconst (-1), 1) := by decide +kernel
theorem dX4_readOnto_46 : decode cX4_readOnto 46 = .ok (.if_icmp .ne 15, 3) := by decide +kernel
theorem dX4_readOnto_61 : decode cX4_readOnto 61 = .ok (.iconst 0, 1) := by decide +kernel
theorem dX4_readOnto_62 : decode cX4_readOnto 62 = .ok (.istore_n 3, 1) := by decide +kernel
theorem dX4_readOnto_63 : decode cX4_readOnto 63 = .ok (.iload_n 3, 1) := by decide +kernel
theorem dX4_readOnto_64 : decode cX4_readOnto 64 = .ok (.ifCond .eq 7, 3) := by decide +kernel
theorem dX4_readOnto_71 : decode cX4_readOnto 71 = .ok (.iinc 4 1, 3) := by decide +kernel
theorem dX4_readOnto_74 : decode cX4_readOnto 74 = .ok (.goto (-53), 3) := by decide +kernel
theorem dX4_readOnto_77 : decode cX4_readOnto 77 = .ok (.aload_n 0, 1) := by decide +kernel
theorem dX4_readOnto_78 : decode cX4_readOnto 78 = .ok (.getfield 32, 3) := by decide +kernel
theorem dX4_readOnto_81 : decode cX4_readOnto 81 = .ok (.ifCond .eq 7, 3) := by decide +kernel
theorem dX4_readOnto_88 : decode cX4_readOnto 88 = .ok (.iload_n 2, 1) := by decide +kernel
theorem dX4_readOnto_89 : decode cX4_readOnto 89 = .ok (.ireturn, 1) := by decide +kernel
theorem dJ6_bitCount_0f7a4_0 : decode cJ6_bitCount_0f7a4 0 = .ok (.iload_n 0, 1) := by decide +kernel
theorem dJ6_bitCount_0f7a4_1 : decode cJ6_bitCount_0f7a4 1 = .ok (.iload_n 0, 1) := by decide +kernel
theorem dJ6_bitCount_0f7a4_2 : decode cJ6_bitCount_0f7a4 2 = .ok (.iconst 1, 1) := by decide +kernel
theorem dJ6_bitCount_0f7a4_3 : decode cJ6_bitCount_0f7a4 3 = .ok (.iushr, 1) := by decide +kernel
theorem dJ6_bitCount_0f7a4_4 : decode cJ6_bitCount_0f7a4 4 = .ok (.ldc_w 265, 3) := by decide +kernel
theorem dJ6_bitCount_0f7a4_7 : decode cJ6_bitCount_0f7a4 7 = .ok (.iand, 1) := by decide +kernel
theorem dJ6_bitCount_0f7a4_8 : decode cJ6_bitCount_0f7a4 8 = .ok (.isub, 1) := by decide +kernel
theorem dJ6_bitCount_0f7a4_9 : decode cJ6_bitCount_0f7a4 9 = .ok (.istore_n 0, 1) := by decide +kernel
theorem dJ6_bitCount_0f7a4_10 : decode cJ6_bitCount_0f7a4 10 = .ok (.iload_n 0, 1) := by decide +kernel
theorem dJ6_bitCount_0f7a4_11 : decode cJ6_bitCount_0f7a4 11 = .ok (.ldc_w 266, 3) := by decide +kernel
theorem dJ6_bitCount_0f7a4_14 : decode cJ6_bitCount_0f7a4 14 = .ok (.iand, 1) := by decide +kernel
theorem dJ6_bitCount_0f7a4_15 : decode cJ6_bitCount_0f7a4 15 = .ok (.iload_n 0, 1) := by decide +kernel
theorem dJ6_bitCount_0f7a4_16 : decode cJ6_bitCount_0f7a4 16 = .ok (.iconst 2, 1) := by decide +kernel
theorem dJ6_bitCount_0f7a4_17 : decode cJ6_bitCount_0f7a4 17 = .ok (.iushr, 1) := by decide +kernel
theorem dJ6_bitCount_0f7a4_18 : decode cJ6_bitCount_0f7a4 18 = .ok (.ldc_w 266, 3) := by decide +kernel
theorem dJ6_bitCount_0f7a4_21 : decode cJ6_bitCount_0f7a4 21 = .ok (.iand, 1) := by decide +kernel
theorem dJ6_bitCount_0f7a4_22 : decode cJ6_bitCount_0f7a4 22 = .ok (.iadd, 1) := by decide +kernel
theorem dJ6_bitCount_0f7a4_23 : decode cJ6_bitCount_0f7a4 23 = .ok (.istore_n 0, 1) := by decide +kernel
theorem dJ6_bitCount_0f7a4_24 : decode cJ6_bitCount_0f7a4 24 = .ok (.iload_n 0, 1) := by decide +kernel
theorem dJ6_bitCount_0f7a4_25 : decode cJ6_bitCount_0f7a4 25 = .ok (.iload_n 0, 1) := by decide +kernel
theorem dJ6_bitCount_0f7a4_26 : decode cJ6_bitCount_0f7a4 26 = .ok (.iconst 4, 1) := by decide +kernel
theorem dJ6_bitCount_0f7a4_27 : decode cJ6_bitCount_0f7a4 27 = .ok (.iushr, 1) := by decide +kernel
theorem dJ6_bitCount_0f7a4_28 : decode cJ6_bitCount_0f7a4 28 = .ok (.iadd, 1) := by decide +kernel
theorem dJ6_bitCount_0f7a4_29 : decode cJ6_bitCount_0f7a4 29 = .ok (.ldc_w 267, 3) := by decide +kernel
theorem dJ6_bitCount_0f7a4_32 : decode cJ6_bitCount_0f7a4 32 = .ok (.iand, 1) := by decide +kernel
theorem dJ6_bitCount_0f7a4_33 : decode cJ6_bitCount_0f7a4 33 = .ok (.istore_n 0, 1) := by decide +kernel
theorem dJ6_bitCount_0f7a4_34 : decode cJ6_bitCount_0f7a4 34 = .ok (.iload_n 0, 1) := by decide +kernel
theorem dJ6_bitCount_0f7a4_35 : decode cJ6_bitCount_0f7a4 35 = .ok (.iload_n 0, 1) := by decide +kernel
theorem dJ6_bitCount_0f7a4_36 : decode cJ6_bitCount_0f7a4 36 = .ok (.bipush 8, 2) := by decide +kernel
theorem dJ6_bitCount_0f7a4_38 : decode cJ6_bitCount_0f7a4 38 = .ok (.iushr, 1) := by decide +kernel
theorem dJ6_bitCount_0f7a4_39 : decode cJ6_bitCount_0f7a4 39 = .ok (.iadd, 1) := by decide +kernel
theorem dJ6_bitCount_0f7a4_40 : decode cJ6_bitCount_0f7a4 40 = .ok (.istore_n 0, 1) := by decide +kernel
theorem dJ6_bitCount_0f7a4_41 : decode cJ6_bitCount_0f7a4 41 = .ok (.iload_n 0, 1) := by decide +kernel
theorem dJ6_bitCount_0f7a4_42 : decode cJ6_bitCount_0f7a4 42 = .ok (.iload_n 0, 1) := by decide +kernel
theorem dJ6_bitCount_0f7a4_43 : decode cJ6_bitCount_0f7a4 43 = .ok (.bipush 16, 2) := by decide +kernel
theorem dJ6_bitCount_0f7a4_45 : decode cJ6_bitCount_0f7a4 45 = .ok (.iushr, 1) := by decide +kernel
theorem dJ6_bitCount_0f7a4_46 : decode cJ6_bitCount_0f7a4 46 = .ok (.iadd, 1) := by decide +kernel
theorem dJ6_bitCount_0f7a4_47 : decode cJ6_bitCount_0f7a4 47 = .ok (.istore_n 0, 1) := by decide +kernel
theorem dJ6_bitCount_0f7a4_48 : decode cJ6_bitCount_0f7a4 48 = .ok (.iload_n 0, 1) := by decide +kernel
theorem dJ6_bitCount_0f7a4_49 : decode cJ6_bitCount_0f7a4 49 = .ok (.bipush 63, 2) := by decide +kernel
theorem dJ6_bitCount_0f7a4_51 : decode cJ6_bitCount_0f7a4 51 = .ok (.iand, 1) := by decide +kernel
theorem dJ6_bitCount_0f7a4_52 : decode cJ6_bitCount_0f7a4 52 = .ok (.ireturn, 1) := by decide +kernel
set_option maxHeartbeats 4000000 in
set_option maxRecDepth 100000 in
theorem k_rowTrouble (l : Launch) (D : va_G) (k : Nat → ClassId) (ad : Nat → Nat) (fs : Nat → Option Nat) (a : Nat) (el : Nat) (v : Int32) (hbs : gx_b v 0 7 = true) (hf : fs v.toNatClampNeg = some a) (sz : Nat) : Met l yX6_rowTrouble (.code yX6_rowTrouble cX6_rowTrouble 2 (some .int) :: gx_T) ({ frames := 1, cells := 0, slots := 0, locals := 20 }) (gx_Pre D k [.ref (ad 0), .int v] ([((ad 0), .inr (4, [.ref (ad 1), .ref (ad 2), .ref (ad 3), .ref (ad 4), .ref (ad 5), .ref (ad 6), .ref (ad 7), .ref (ad 8), .ref (ad 9), .int 0])), ((ad 5), .inl (k 2, 8, .inr (.inr (.inr (.inr fs))))), (a, .inr (1, [.ref el, .int 0, .int 0, .int (-1)]))]) sz) (gx_Pi (fun r => r = -4)) 0 0 gx_No := by
  refine gx_metP (by decide) (Nat.le_of_ble_eq_true rfl) ?_
  intro p e s m below meth c ls C hP hD hK hS hl
  obtain ⟨hx, hb, hr, hml, hown, hT, hlk, hin⟩ := id C
  have hown : s.vm.findClass RX6 = some m.cls := hown
  have hl : lv_has ls 2 [(0, .ref (ad 0)), (1, .int v)] := hl
  refine lv_aload_n hx hb dX6_rowTrouble_0 rfl (lv_at hl 0 rfl) ?_
  refine va_get (D := D) (ci := 4) (v := .ref (ad 5)) (C := RX6) (T := TX6) (N := 10) hx hb hT iw_TX6 hown hK.1 hP 0 rfl rfl 4 (by decide) (hT _ wd_275) (fun _ h9 => h9) rfl dX6_rowTrouble_1 ?_
  refine lv_iload_n hx hb dX6_rowTrouble_4 rfl (lv_at hl 1 rfl) ?_
  refine va_aldq hx hb hK.1 hP 1 2 rfl rfl (gx_vb hbs (by decide) (by decide)) dX6_rowTrouble_5 ?_
  refine gx_csr (v := .ref a) (congrArg va_rf hf) ?_
  refine gx_pi hP hS (gx_runV (na := 0) (As := []) (rest := []) (ci := 1) C hl.1 hK (gx_subP (wc := ([(a, .inr (1, [.ref el, .int 0, .int 0, .int (-1)]))] : va_W)) hP [2] rfl) ((hD.sub (ws' := ([(a, .inr (1, [.ref el, .int 0, .int 0, .int (-1)]))] : va_W)) [2] (by decide) rfl).weaken (fun _ _ _ _ => trivial)) (k_isRule l D k a el 0 0 _) gV_RX6_225 (by decide +kernel) rfl rfl ⟨Nat.le_of_ble_eq_true rfl, Nat.le_of_ble_eq_true rfl⟩ rfl rfl rfl rfl (Nat.le_of_ble_eq_true rfl) dX6_rowTrouble_6 ⟨Nat.le_of_ble_eq_true rfl, Nat.le_of_ble_eq_true rfl⟩) (fun r_2 H locs c_1 hP hS => ?_)
  have c_1 : r_2 = 0 := c_1
  subst c_1
  refine lv_if_eq (tgt := 15) hx hb dX6_rowTrouble_9 (by decide) (fun c_3 => ?_) (fun c_3 => absurd (by decide) c_3)
  refine lv_aload_n hx hb dX6_rowTrouble_15 rfl (lv_at hl 0 rfl) ?_
  refine va_get (D := D) (ci := 4) (v := .ref (ad 5)) (C := RX6) (T := TX6) (N := 10) hx hb hT iw_TX6 hown hK.1 hP 0 rfl rfl 4 (by decide) (hT _ wd_275) (fun _ h9 => h9) rfl dX6_rowTrouble_16 ?_
  refine lv_iload_n hx hb dX6_rowTrouble_19 rfl (lv_at hl 1 rfl) ?_
  refine va_aldq hx hb hK.1 hP 1 2 rfl rfl (gx_vb hbs (by decide) (by decide)) dX6_rowTrouble_20 ?_
  refine gx_csr (v := .ref a) (congrArg va_rf hf) ?_
  refine gx_pi hP hS (gx_runV (na := 0) (As := []) (rest := []) (ci := 1) C hl.1 hK (gx_subP (wc := ([(a, .inr (1, [.ref el, .int 0, .int 0, .int (-1)]))] : va_W)) hP [2] rfl) ((hD.sub (ws' := ([(a, .inr (1, [.ref el, .int 0, .int 0, .int (-1)]))] : va_W)) [2] (by decide) rfl).weaken (fun _ _ _ _ => trivial)) (k_isEmpty l D k a el 0 0 _) gV_RX6_312 (by decide +kernel) rfl rfl ⟨Nat.le_of_ble_eq_true rfl, Nat.le_of_ble_eq_true rfl⟩ rfl rfl rfl rfl (Nat.le_of_ble_eq_true rfl) dX6_rowTrouble_21 ⟨Nat.le_of_ble_eq_true rfl, Nat.le_of_ble_eq_true rfl⟩) (fun r_5 H locs c_4 hP hS => ?_)
  have c_4 : r_5 = 1 := c_4
  subst c_4
  refine lv_if_eq (tgt := 32) hx hb dX6_rowTrouble_24 (by decide) (fun c_6 => absurd c_6 (by decide)) (fun c_6 => ?_)
  refine lv_bipush (v := (-4)) hx hb dX6_rowTrouble_27 (by decide) ?_
  refine lv_goto (tgt := 33) hx hb dX6_rowTrouble_29 (by decide) ?_
  exact gx_retP C hS (rfl) dX6_rowTrouble_33
set_option maxHeartbeats 4000000 in
set_option maxRecDepth 100000 in
theorem k_ruleTrouble (l : Launch) (D : va_G) (k : Nat → ClassId) (ad : Nat → Nat) (fs : Nat → Option Nat) (a : Nat) (el : Nat) (v : Int32) (hbs : gx_b v 0 7 = true) (hf : fs v.toNatClampNeg = some a) (sz : Nat) : Met l yX6_ruleTrouble (.code yX6_ruleTrouble cX6_ruleTrouble 2 (some .int) :: gx_T) ({ frames := 1, cells := 0, slots := 0, locals := 20 }) (gx_Pre D k [.ref (ad 0), .int v] ([((ad 0), .inr (4, [.ref (ad 1), .ref (ad 2), .ref (ad 3), .ref (ad 4), .ref (ad 5), .ref (ad 6), .ref (ad 7), .ref (ad 8), .ref (ad 9), .int 0])), ((ad 5), .inl (k 2, 8, .inr (.inr (.inr (.inr fs))))), (a, .inr (1, [.ref el, .int 0, .int 0, .int (-1)]))]) sz) (gx_Pi (fun r => r = -4)) 0 0 gx_No := by
  refine gx_metP (by decide) (Nat.le_of_ble_eq_true rfl) ?_
  intro p e s m below meth c ls C hP hD hK hS hl
  obtain ⟨hx, hb, hr, hml, hown, hT, hlk, hin⟩ := id C
  have hown : s.vm.findClass RX6 = some m.cls := hown
  have hl : lv_has ls 2 [(0, .ref (ad 0)), (1, .int v)] := hl
  refine lv_aload_n hx hb dX6_ruleTrouble_0 rfl (lv_at hl 0 rfl) ?_
  refine va_get (D := D) (ci := 4) (v := .ref (ad 5)) (C := RX6) (T := TX6) (N := 10) hx hb hT iw_TX6 hown hK.1 hP 0 rfl rfl 4 (by decide) (hT _ wd_275) (fun _ h9 => h9) rfl dX6_ruleTrouble_1 ?_
  refine lv_iload_n hx hb dX6_ruleTrouble_4 rfl (lv_at hl 1 rfl) ?_
  refine va_aldq hx hb hK.1 hP 1 2 rfl rfl (gx_vb hbs (by decide) (by decide)) dX6_ruleTrouble_5 ?_
  refine gx_csr (v := .ref a) (congrArg va_rf hf) ?_
  refine gx_pi hP hS (gx_runV (na := 0) (As := []) (rest := []) (ci := 1) C hl.1 hK (gx_subP (wc := ([(a, .inr (1, [.ref el, .int 0, .int 0, .int (-1)]))] : va_W)) hP [2] rfl) ((hD.sub (ws' := ([(a, .inr (1, [.ref el, .int 0, .int 0, .int (-1)]))] : va_W)) [2] (by decide) rfl).weaken (fun _ _ _ _ => trivial)) (k_isRow l D k a el 0 0 _) gV_RX6_98 (by decide +kernel) rfl rfl ⟨Nat.le_of_ble_eq_true rfl, Nat.le_of_ble_eq_true rfl⟩ rfl rfl rfl rfl (Nat.le_of_ble_eq_true rfl) dX6_ruleTrouble_6 ⟨Nat.le_of_ble_eq_true rfl, Nat.le_of_ble_eq_true rfl⟩) (fun r_2 H locs c_1 hP hS => ?_)
  have c_1 : r_2 = 0 := c_1
  subst c_1
  refine lv_if_eq (tgt := 15) hx hb dX6_ruleTrouble_9 (by decide) (fun c_3 => ?_) (fun c_3 => absurd (by decide) c_3)
  refine lv_aload_n hx hb dX6_ruleTrouble_15 rfl (lv_at hl 0 rfl) ?_
  refine va_get (D := D) (ci := 4) (v := .ref (ad 5)) (C := RX6) (T := TX6) (N := 10) hx hb hT iw_TX6 hown hK.1 hP 0 rfl rfl 4 (by decide) (hT _ wd_275) (fun _ h9 => h9) rfl dX6_ruleTrouble_16 ?_
  refine lv_iload_n hx hb dX6_ruleTrouble_19 rfl (lv_at hl 1 rfl) ?_
  refine va_aldq hx hb hK.1 hP 1 2 rfl rfl (gx_vb hbs (by decide) (by decide)) dX6_ruleTrouble_20 ?_
  refine gx_csr (v := .ref a) (congrArg va_rf hf) ?_
  refine gx_pi hP hS (gx_runV (na := 0) (As := []) (rest := []) (ci := 1) C hl.1 hK (gx_subP (wc := ([(a, .inr (1, [.ref el, .int 0, .int 0, .int (-1)]))] : va_W)) hP [2] rfl) ((hD.sub (ws' := ([(a, .inr (1, [.ref el, .int 0, .int 0, .int (-1)]))] : va_W)) [2] (by decide) rfl).weaken (fun _ _ _ _ => trivial)) (k_isEmpty l D k a el 0 0 _) gV_RX6_312 (by decide +kernel) rfl rfl ⟨Nat.le_of_ble_eq_true rfl, Nat.le_of_ble_eq_true rfl⟩ rfl rfl rfl rfl (Nat.le_of_ble_eq_true rfl) dX6_ruleTrouble_21 ⟨Nat.le_of_ble_eq_true rfl, Nat.le_of_ble_eq_true rfl⟩) (fun r_5 H locs c_4 hP hS => ?_)
  have c_4 : r_5 = 1 := c_4
  subst c_4
  refine lv_if_eq (tgt := 32) hx hb dX6_ruleTrouble_24 (by decide) (fun c_6 => absurd c_6 (by decide)) (fun c_6 => ?_)
  refine lv_bipush (v := (-4)) hx hb dX6_ruleTrouble_27 (by decide) ?_
  refine lv_goto (tgt := 33) hx hb dX6_ruleTrouble_29 (by decide) ?_
  exact gx_retP C hS (rfl) dX6_ruleTrouble_33
set_option maxHeartbeats 4000000 in
set_option maxRecDepth 100000 in
theorem k_copyTrouble1 (l : Launch) (D : va_G) (k : Nat → ClassId) (a : Nat) (el : Nat) (sz : Nat) : Met l yX6_copyTrouble (.code yX6_copyTrouble cX6_copyTrouble 2 (some .int) :: gx_T) ({ frames := 1, cells := 0, slots := 0, locals := 20 }) (gx_Pre D k [.ref a, .ref a] ([(a, .inr (1, [.ref el, .int 0, .int 0, .int (-1)]))]) sz) (gx_Pi (fun r => r = -4)) 0 0 gx_No := by
  refine gx_metP (by decide) (Nat.le_of_ble_eq_true rfl) ?_
  intro p e s m below meth c ls C hP hD hK hS hl
  obtain ⟨hx, hb, hr, hml, hown, hT, hlk, hin⟩ := id C
  have hown : s.vm.findClass RX6 = some m.cls := hown
  have hl : lv_has ls 2 [(0, .ref a), (1, .ref a)] := hl
  refine lv_aload_n hx hb dX6_copyTrouble_0 rfl (lv_at hl 0 rfl) ?_
  refine gx_pi hP hS (gx_runV (na := 0) (As := []) (rest := []) (ci := 1) C hl.1 hK (gx_subP (wc := ([(a, .inr (1, [.ref el, .int 0, .int 0, .int (-1)]))] : va_W)) hP [0] rfl) ((hD.sub (ws' := ([(a, .inr (1, [.ref el, .int 0, .int 0, .int (-1)]))] : va_W)) [0] (by decide) rfl).weaken (fun _ _ _ _ => trivial)) (k_isRule l D k a el 0 0 _) gV_RX6_225 (by decide +kernel) rfl rfl ⟨Nat.le_of_ble_eq_true rfl, Nat.le_of_ble_eq_true rfl⟩ rfl rfl rfl rfl (Nat.le_of_ble_eq_true rfl) dX6_copyTrouble_1 ⟨Nat.le_of_ble_eq_true rfl, Nat.le_of_ble_eq_true rfl⟩) (fun r_2 H locs c_1 hP hS => ?_)
  have c_1 : r_2 = 0 := c_1
  subst c_1
  refine lv_if_ne (tgt := 14) hx hb dX6_copyTrouble_4 (by decide) (fun c_3 => absurd (by decide) c_3) (fun c_3 => ?_)
  refine lv_aload_n hx hb dX6_copyTrouble_7 rfl (lv_at hl 1 rfl) ?_
  refine gx_pi hP hS (gx_runV (na := 0) (As := []) (rest := []) (ci := 1) C hl.1 hK (gx_subP (wc := ([(a, .inr (1, [.ref el, .int 0, .int 0, .int (-1)]))] : va_W)) hP [0] rfl) ((hD.sub (ws' := ([(a, .inr (1, [.ref el, .int 0, .int 0, .int (-1)]))] : va_W)) [0] (by decide) rfl).weaken (fun _ _ _ _ => trivial)) (k_isRule l D k a el 0 0 _) gV_RX6_225 (by decide +kernel) rfl rfl ⟨Nat.le_of_ble_eq_true rfl, Nat.le_of_ble_eq_true rfl⟩ rfl rfl rfl rfl (Nat.le_of_ble_eq_true rfl) dX6_copyTrouble_8 ⟨Nat.le_of_ble_eq_true rfl, Nat.le_of_ble_eq_true rfl⟩) (fun r_5 H locs c_4 hP hS => ?_)
  have c_4 : r_5 = 0 := c_4
  subst c_4
  refine lv_if_eq (tgt := 17) hx hb dX6_copyTrouble_11 (by decide) (fun c_6 => ?_) (fun c_6 => absurd (by decide) c_6)
  refine lv_aload_n hx hb dX6_copyTrouble_17 rfl (lv_at hl 0 rfl) ?_
  refine gx_pi hP hS (gx_runV (na := 0) (As := []) (rest := []) (ci := 1) C hl.1 hK (gx_subP (wc := ([(a, .inr (1, [.ref el, .int 0, .int 0, .int (-1)]))] : va_W)) hP [0] rfl) ((hD.sub (ws' := ([(a, .inr (1, [.ref el, .int 0, .int 0, .int (-1)]))] : va_W)) [0] (by decide) rfl).weaken (fun _ _ _ _ => trivial)) (k_isEmpty l D k a el 0 0 _) gV_RX6_312 (by decide +kernel) rfl rfl ⟨Nat.le_of_ble_eq_true rfl, Nat.le_of_ble_eq_true rfl⟩ rfl rfl rfl rfl (Nat.le_of_ble_eq_true rfl) dX6_copyTrouble_18 ⟨Nat.le_of_ble_eq_true rfl, Nat.le_of_ble_eq_true rfl⟩) (fun r_8 H locs c_7 hP hS => ?_)
  have c_7 : r_8 = 1 := c_7
  subst c_7
  refine lv_if_ne (tgt := 31) hx hb dX6_copyTrouble_21 (by decide) (fun c_9 => ?_) (fun c_9 => absurd c_9 (by decide))
  refine lv_bipush (v := (-4)) hx hb dX6_copyTrouble_31 (by decide) ?_
  exact gx_retP C hS (rfl) dX6_copyTrouble_33
set_option maxHeartbeats 4000000 in
set_option maxRecDepth 100000 in
theorem k_copyTrouble2 (l : Launch) (D : va_G) (k : Nat → ClassId) (a : Nat) (el : Nat) (a2 : Nat) (el2 : Nat) (sz : Nat) : Met l yX6_copyTrouble (.code yX6_copyTrouble cX6_copyTrouble 2 (some .int) :: gx_T) ({ frames := 1, cells := 0, slots := 0, locals := 20 }) (gx_Pre D k [.ref a, .ref a2] ([(a, .inr (1, [.ref el, .int 0, .int 0, .int (-1)])), (a2, .inr (1, [.ref el2, .int 0, .int 0, .int (-1)]))]) sz) (gx_Pi (fun r => r = -4)) 0 0 gx_No := by
  refine gx_metP (by decide) (Nat.le_of_ble_eq_true rfl) ?_
  intro p e s m below meth c ls C hP hD hK hS hl
  obtain ⟨hx, hb, hr, hml, hown, hT, hlk, hin⟩ := id C
  have hown : s.vm.findClass RX6 = some m.cls := hown
  have hl : lv_has ls 2 [(0, .ref a), (1, .ref a2)] := hl
  refine lv_aload_n hx hb dX6_copyTrouble_0 rfl (lv_at hl 0 rfl) ?_
  refine gx_pi hP hS (gx_runV (na := 0) (As := []) (rest := []) (ci := 1) C hl.1 hK (gx_subP (wc := ([(a, .inr (1, [.ref el, .int 0, .int 0, .int (-1)]))] : va_W)) hP [0] rfl) ((hD.sub (ws' := ([(a, .inr (1, [.ref el, .int 0, .int 0, .int (-1)]))] : va_W)) [0] (by decide) rfl).weaken (fun _ _ _ _ => trivial)) (k_isRule l D k a el 0 0 _) gV_RX6_225 (by decide +kernel) rfl rfl ⟨Nat.le_of_ble_eq_true rfl, Nat.le_of_ble_eq_true rfl⟩ rfl rfl rfl rfl (Nat.le_of_ble_eq_true rfl) dX6_copyTrouble_1 ⟨Nat.le_of_ble_eq_true rfl, Nat.le_of_ble_eq_true rfl⟩) (fun r_2 H locs c_1 hP hS => ?_)
  have c_1 : r_2 = 0 := c_1
  subst c_1
  refine lv_if_ne (tgt := 14) hx hb dX6_copyTrouble_4 (by decide) (fun c_3 => absurd (by decide) c_3) (fun c_3 => ?_)
  refine lv_aload_n hx hb dX6_copyTrouble_7 rfl (lv_at hl 1 rfl) ?_
  refine gx_pi hP hS (gx_runV (na := 0) (As := []) (rest := []) (ci := 1) C hl.1 hK (gx_subP (wc := ([(a2, .inr (1, [.ref el2, .int 0, .int 0, .int (-1)]))] : va_W)) hP [1] rfl) ((hD.sub (ws' := ([(a2, .inr (1, [.ref el2, .int 0, .int 0, .int (-1)]))] : va_W)) [1] (by decide) rfl).weaken (fun _ _ _ _ => trivial)) (k_isRule l D k a2 el2 0 0 _) gV_RX6_225 (by decide +kernel) rfl rfl ⟨Nat.le_of_ble_eq_true rfl, Nat.le_of_ble_eq_true rfl⟩ rfl rfl rfl rfl (Nat.le_of_ble_eq_true rfl) dX6_copyTrouble_8 ⟨Nat.le_of_ble_eq_true rfl, Nat.le_of_ble_eq_true rfl⟩) (fun r_5 H locs c_4 hP hS => ?_)
  have c_4 : r_5 = 0 := c_4
  subst c_4
  refine lv_if_eq (tgt := 17) hx hb dX6_copyTrouble_11 (by decide) (fun c_6 => ?_) (fun c_6 => absurd (by decide) c_6)
  refine lv_aload_n hx hb dX6_copyTrouble_17 rfl (lv_at hl 0 rfl) ?_
  refine gx_pi hP hS (gx_runV (na := 0) (As := []) (rest := []) (ci := 1) C hl.1 hK (gx_subP (wc := ([(a, .inr (1, [.ref el, .int 0, .int 0, .int (-1)]))] : va_W)) hP [0] rfl) ((hD.sub (ws' := ([(a, .inr (1, [.ref el, .int 0, .int 0, .int (-1)]))] : va_W)) [0] (by decide) rfl).weaken (fun _ _ _ _ => trivial)) (k_isEmpty l D k a el 0 0 _) gV_RX6_312 (by decide +kernel) rfl rfl ⟨Nat.le_of_ble_eq_true rfl, Nat.le_of_ble_eq_true rfl⟩ rfl rfl rfl rfl (Nat.le_of_ble_eq_true rfl) dX6_copyTrouble_18 ⟨Nat.le_of_ble_eq_true rfl, Nat.le_of_ble_eq_true rfl⟩) (fun r_8 H locs c_7 hP hS => ?_)
  have c_7 : r_8 = 1 := c_7
  subst c_7
  refine lv_if_ne (tgt := 31) hx hb dX6_copyTrouble_21 (by decide) (fun c_9 => ?_) (fun c_9 => absurd c_9 (by decide))
  refine lv_bipush (v := (-4)) hx hb dX6_copyTrouble_31 (by decide) ?_
  exact gx_retP C hS (rfl) dX6_copyTrouble_33
set_option maxHeartbeats 4000000 in
set_option maxRecDepth 100000 in
theorem k_fillJ (l : Launch) (D : va_G) (k : Nat → ClassId) (h0 : Nat) (n0 : Nat) (f : Nat → Int64) (v : Int64) (hn0 : n0 < 2 ^ 31) (sz : Nat) : Met l yJ7_fill_d0a16 (.code yJ7_fill_d0a16 cJ7_fill_d0a16 5 none :: gx_T) ({ frames := 0, cells := 0, slots := 0, locals := 0 }) (gx_Pre D k [.ref h0, .long v] ([(h0, .inl (k 1, n0, .inr (.inl f)))]) sz) (gx_Qv D (fun (u : (Nat → Int64)) => True) (fun (u : (Nat → Int64)) => ([(h0, .inl (k 1, n0, .inr (.inl u)))] : va_W)) (va_A ([(h0, .inl (k 1, n0, .inr (.inl f)))]) sz)) 0 0 (va_A ([(h0, .inl (k 1, n0, .inr (.inl f)))]) sz) := by
  refine gx_metE (Qc := fun A => gx_Qv D (fun (u : Nat → Int64) => True) (fun (u : Nat → Int64) => ([(h0, .inl (k 1, n0, .inr (.inl u)))] : va_W)) A) (by decide) (Nat.le_of_ble_eq_true rfl) ?_
  intro p e s m below meth c A ls C hA hP hD hK hS hl
  obtain ⟨hx, hb, hr, hml, hown, hT, hlk, hin⟩ := id C
  have hl : lv_has ls 5 [(0, .ref h0), (1, .long v)] := hl
  have loop : ∀ (j i : Nat) (f : Nat → Int64) (H : Heap) (locs : List Loc) (ls : Array Slot), i + j = n0 → va_P D gx_cl [(h0, .inl (k 1, n0, .inr (.inl f)))] H → va_D A [(h0, .inl (k 1, n0, .inr (.inl f)))] → va_S A s.heap H locs → lv_has ls 5 [(4, .int (nI n0)), (3, .int (nI i)), (0, .ref h0), (1, .long v)] → W p l e ({ frames := 0, cells := 0, slots := 0, locals := 0 }) s m ([.ref h0, .long v] : List Value).toArray below meth c H locs 0 0 (MQ below (gx_Qv D (fun (u : Nat → Int64) => True) (fun (u : Nat → Int64) => ([(h0, .inl (k 1, n0, .inr (.inl u)))] : va_W)) A) ([.ref h0, .long v] : List Value).toArray s 0 0 A) (F0 m 6 ls []) := by
    intro j
    induction j with
    | zero =>
      intro i f H locs ls hi hP hD hS hl
      have hi : i = n0 := by omega
      subst hi
      refine lv_iload_n hx hb dJ7_fill_d0a16_6 rfl (lv_at hl 1 rfl) ?_
      refine lv_iload hx hb dJ7_fill_d0a16_7 (lv_at hl 0 rfl) ?_
      refine lv_icmp_ge (tgt := 22) hx hb dJ7_fill_d0a16_9 (by decide) (fun c9 => ?_) (fun c9 => absurd (Int32.le_refl _) c9)
      exact gx_retV C (u := f) hP hD hS trivial dJ7_fill_d0a16_22
    | succ j ih =>
      intro i f H locs ls hi hP hD hS hl
      have hlt : i < n0 := by omega
      refine lv_iload_n hx hb dJ7_fill_d0a16_6 rfl (lv_at hl 1 rfl) ?_
      refine lv_iload hx hb dJ7_fill_d0a16_7 (lv_at hl 0 rfl) ?_
      refine lv_icmp_ge (tgt := 22) hx hb dJ7_fill_d0a16_9 (by decide) (fun c9 => absurd c9 (nI_ge hlt hn0)) (fun c9 => ?_)
      refine lv_aload_n hx hb dJ7_fill_d0a16_12 rfl (lv_at hl 2 rfl) ?_
      refine lv_iload_n hx hb dJ7_fill_d0a16_13 rfl (lv_at hl 1 rfl) ?_
      refine lv_lload_n hx hb dJ7_fill_d0a16_14 rfl (lv_at hl 3 rfl) ?_
      refine va_last hx hb hK.1 hP hD hS 0 1 rfl rfl (vp_in_nI hlt hn0) dJ7_fill_d0a16_15 (fun H locs hP hD hS => ?_)
      refine lv_iinc (v := nI (i + 1)) (lv' := [(3, .int (nI (i + 1))), (4, .int (nI n0)), (0, .ref h0), (1, .long v)]) hx hb dJ7_fill_d0a16_16 hl (k := 1) rfl (nI_1 i) (by decide) rfl (fun ls hl => ?_)
      refine lv_goto (tgt := 6) hx hb dJ7_fill_d0a16_19 (by decide) ?_
      exact ih (i + 1) _ H locs ls (by omega) hP hD hS (lv_sub hl [1, 0, 2, 3] rfl)
  refine lv_iconst (v := 0) hx hb dJ7_fill_d0a16_0 (by decide) ?_
  refine lv_istore_n (lv' := [(3, .int 0), (0, .ref h0), (1, .long v)]) hx hb dJ7_fill_d0a16_1 rfl hl (by decide) rfl (fun ls hl => ?_)
  refine lv_aload_n hx hb dJ7_fill_d0a16_2 rfl (lv_at hl 1 rfl) ?_
  refine va_alen (v := nI n0) hx hb hK.1 hP 0 1 rfl rfl rfl dJ7_fill_d0a16_3 ?_
  refine lv_istore (lv' := [(4, .int (nI n0)), (3, .int 0), (0, .ref h0), (1, .long v)]) hx hb dJ7_fill_d0a16_4 hl (by decide) rfl (fun ls hl => ?_)
  exact loop n0 0 f _ _ ls (by omega) hP hD hS hl
set_option maxHeartbeats 4000000 in
set_option maxRecDepth 100000 in
theorem k_fillI (l : Launch) (D : va_G) (k : Nat → ClassId) (h0 : Nat) (n0 : Nat) (f : Nat → Int32) (v : Int32) (hn0 : n0 < 2 ^ 31) (sz : Nat) : Met l yJ7_fill_53178 (.code yJ7_fill_53178 cJ7_fill_53178 4 none :: gx_T) ({ frames := 0, cells := 0, slots := 0, locals := 0 }) (gx_Pre D k [.ref h0, .int v] ([(h0, .inl (k 0, n0, .inl f))]) sz) (gx_Qv D (fun (u : (Nat → Int32)) => True) (fun (u : (Nat → Int32)) => ([(h0, .inl (k 0, n0, .inl u))] : va_W)) (va_A ([(h0, .inl (k 0, n0, .inl f))]) sz)) 0 0 (va_A ([(h0, .inl (k 0, n0, .inl f))]) sz) := by
  refine gx_metE (Qc := fun A => gx_Qv D (fun (u : Nat → Int32) => True) (fun (u : Nat → Int32) => ([(h0, .inl (k 0, n0, .inl u))] : va_W)) A) (by decide) (Nat.le_of_ble_eq_true rfl) ?_
  intro p e s m below meth c A ls C hA hP hD hK hS hl
  obtain ⟨hx, hb, hr, hml, hown, hT, hlk, hin⟩ := id C
  have hl : lv_has ls 4 [(0, .ref h0), (1, .int v)] := hl
  have loop : ∀ (j i : Nat) (f : Nat → Int32) (H : Heap) (locs : List Loc) (ls : Array Slot), i + j = n0 → va_P D gx_cl [(h0, .inl (k 0, n0, .inl f))] H → va_D A [(h0, .inl (k 0, n0, .inl f))] → va_S A s.heap H locs → lv_has ls 4 [(3, .int (nI n0)), (2, .int (nI i)), (0, .ref h0), (1, .int v)] → W p l e ({ frames := 0, cells := 0, slots := 0, locals := 0 }) s m ([.ref h0, .int v] : List Value).toArray below meth c H locs 0 0 (MQ below (gx_Qv D (fun (u : Nat → Int32) => True) (fun (u : Nat → Int32) => ([(h0, .inl (k 0, n0, .inl u))] : va_W)) A) ([.ref h0, .int v] : List Value).toArray s 0 0 A) (F0 m 5 ls []) := by
    intro j
    induction j with
    | zero =>
      intro i f H locs ls hi hP hD hS hl
      have hi : i = n0 := by omega
      subst hi
      refine lv_iload_n hx hb dJ7_fill_53178_5 rfl (lv_at hl 1 rfl) ?_
      refine lv_iload_n hx hb dJ7_fill_53178_6 rfl (lv_at hl 0 rfl) ?_
      refine lv_icmp_ge (tgt := 20) hx hb dJ7_fill_53178_7 (by decide) (fun c9 => ?_) (fun c9 => absurd (Int32.le_refl _) c9)
      exact gx_retV C (u := f) hP hD hS trivial dJ7_fill_53178_20
    | succ j ih =>
      intro i f H locs ls hi hP hD hS hl
      have hlt : i < n0 := by omega
      refine lv_iload_n hx hb dJ7_fill_53178_5 rfl (lv_at hl 1 rfl) ?_
      refine lv_iload_n hx hb dJ7_fill_53178_6 rfl (lv_at hl 0 rfl) ?_
      refine lv_icmp_ge (tgt := 20) hx hb dJ7_fill_53178_7 (by decide) (fun c9 => absurd c9 (nI_ge hlt hn0)) (fun c9 => ?_)
      refine lv_aload_n hx hb dJ7_fill_53178_10 rfl (lv_at hl 2 rfl) ?_
      refine lv_iload_n hx hb dJ7_fill_53178_11 rfl (lv_at hl 1 rfl) ?_
      refine lv_iload_n hx hb dJ7_fill_53178_12 rfl (lv_at hl 3 rfl) ?_
      refine va_iast hx hb hK.1 hP hD hS 0 0 rfl rfl (vp_in_nI hlt hn0) dJ7_fill_53178_13 (fun H locs hP hD hS => ?_)
      refine lv_iinc (v := nI (i + 1)) (lv' := [(2, .int (nI (i + 1))), (3, .int (nI n0)), (0, .ref h0), (1, .int v)]) hx hb dJ7_fill_53178_14 hl (k := 1) rfl (nI_1 i) (by decide) rfl (fun ls hl => ?_)
      refine lv_goto (tgt := 5) hx hb dJ7_fill_53178_17 (by decide) ?_
      exact ih (i + 1) _ H locs ls (by omega) hP hD hS (lv_sub hl [1, 0, 2, 3] rfl)
  refine lv_iconst (v := 0) hx hb dJ7_fill_53178_0 (by decide) ?_
  refine lv_istore_n (lv' := [(2, .int 0), (0, .ref h0), (1, .int v)]) hx hb dJ7_fill_53178_1 rfl hl (by decide) rfl (fun ls hl => ?_)
  refine lv_aload_n hx hb dJ7_fill_53178_2 rfl (lv_at hl 1 rfl) ?_
  refine va_alen (v := nI n0) hx hb hK.1 hP 0 0 rfl rfl rfl dJ7_fill_53178_3 ?_
  refine lv_istore_n (lv' := [(3, .int (nI n0)), (2, .int 0), (0, .ref h0), (1, .int v)]) hx hb dJ7_fill_53178_4 rfl hl (by decide) rfl (fun ls hl => ?_)
  exact loop n0 0 f _ _ ls (by omega) hP hD hS hl
set_option maxHeartbeats 4000000 in
set_option maxRecDepth 100000 in
theorem k_becomeRow (l : Launch) (D : va_G) (k : Nat → ClassId) (h0 : Nat) (e0 : Nat) (v : Int32) (n : Int32) (sz : Nat) : Met l yX3_becomeRow (.code yX3_becomeRow cX3_becomeRow 3 none :: gx_T) ({ frames := 1, cells := 0, slots := 0, locals := 24 }) (gx_Pre D k [.ref h0, .int v, .int n] ([(h0, .inr (1, [.ref e0, .int 0, .int 0, .int (-1)])), (e0, .inl (k 1, 40, .inr (.inl (fun _ => 0))))]) sz) (gx_Qv D (fun (u : Unit) => True) (fun (u : Unit) => ([] : va_W)) (va_A ([(h0, .inr (1, [.ref e0, .int 0, .int 0, .int (-1)])), (e0, .inl (k 1, 40, .inr (.inl (fun _ => 0))))]) sz)) 0 0 (va_A ([(h0, .inr (1, [.ref e0, .int 0, .int 0, .int (-1)])), (e0, .inl (k 1, 40, .inr (.inl (fun _ => 0))))]) sz) := by
  refine gx_metE (Qc := fun A => gx_Qv D (fun (u : Unit) => True) (fun (u : Unit) => ([] : va_W)) A) (by decide) (Nat.le_of_ble_eq_true rfl) ?_
  intro p e s m below meth c A ls C hA hP hD hK hS hl
  obtain ⟨hx, hb, hr, hml, hown, hT, hlk, hin⟩ := id C
  have hown : s.vm.findClass RX3 = some m.cls := hown
  have hl : lv_has ls 3 [(0, .ref h0), (1, .int v), (2, .int n)] := hl
  refine lv_aload_n hx hb dX3_becomeRow_0 rfl (lv_at hl 0 rfl) ?_
  refine lv_iload_n hx hb dX3_becomeRow_1 rfl (lv_at hl 1 rfl) ?_
  refine va_put (D := D) (ci := 1) (v := .int v) (ty := .int) (C := RX3) (T := TX3) (N := 4) hx hb hT iw_TX3 tyX3 tyX3_ok nmX3 hown hK.1 hP hD hS 0 rfl rfl 3 (by decide) (hT _ wd_259) (fun _ h9 => h9) rfl (by decide +kernel) rfl rfl (Nat.le_of_ble_eq_true rfl) dX3_becomeRow_2 (fun H locs hP hD hS => ?_)
  have hP : va_P D gx_cl [(h0, .inr (1, [.ref e0, .int 0, .int 0, .int v])), (e0, .inl (k 1, 40, .inr (.inl (fun _ => 0))))] H := hP
  have hD : va_D A [(h0, .inr (1, [.ref e0, .int 0, .int 0, .int v])), (e0, .inl (k 1, 40, .inr (.inl (fun _ => 0))))] := hD
  refine lv_aload_n hx hb dX3_becomeRow_5 rfl (lv_at hl 0 rfl) ?_
  refine lv_iload_n hx hb dX3_becomeRow_6 rfl (lv_at hl 2 rfl) ?_
  refine va_put (D := D) (ci := 1) (v := .int n) (ty := .int) (C := RX3) (T := TX3) (N := 4) hx hb hT iw_TX3 tyX3 tyX3_ok nmX3 hown hK.1 hP hD hS 0 rfl rfl 1 (by decide) (hT _ wd_255) (fun _ h9 => h9) rfl (by decide +kernel) rfl rfl (Nat.le_of_ble_eq_true rfl) dX3_becomeRow_7 (fun H locs hP hD hS => ?_)
  have hP : va_P D gx_cl [(h0, .inr (1, [.ref e0, .int n, .int 0, .int v])), (e0, .inl (k 1, 40, .inr (.inl (fun _ => 0))))] H := hP
  have hD : va_D A [(h0, .inr (1, [.ref e0, .int n, .int 0, .int v])), (e0, .inl (k 1, 40, .inr (.inl (fun _ => 0))))] := hD
  refine lv_aload_n hx hb dX3_becomeRow_10 rfl (lv_at hl 0 rfl) ?_
  refine lv_iconst (v := 0) hx hb dX3_becomeRow_11 (by decide) ?_
  refine va_put (D := D) (ci := 1) (v := .int 0) (ty := .int) (C := RX3) (T := TX3) (N := 4) hx hb hT iw_TX3 tyX3 tyX3_ok nmX3 hown hK.1 hP hD hS 0 rfl rfl 2 (by decide) (hT _ wd_257) (fun _ h9 => h9) rfl (by decide +kernel) rfl rfl (Nat.le_of_ble_eq_true rfl) dX3_becomeRow_12 (fun H locs hP hD hS => ?_)
  have hP : va_P D gx_cl [(h0, .inr (1, [.ref e0, .int n, .int 0, .int v])), (e0, .inl (k 1, 40, .inr (.inl (fun _ => 0))))] H := hP
  have hD : va_D A [(h0, .inr (1, [.ref e0, .int n, .int 0, .int v])), (e0, .inl (k 1, 40, .inr (.inl (fun _ => 0))))] := hD
  refine lv_aload_n hx hb dX3_becomeRow_15 rfl (lv_at hl 0 rfl) ?_
  refine va_get (D := D) (ci := 1) (v := .ref e0) (C := RX3) (T := TX3) (N := 4) hx hb hT iw_TX3 hown hK.1 hP 0 rfl rfl 0 (by decide) (hT _ wd_251) (fun _ h9 => h9) rfl dX3_becomeRow_16 ?_
  refine lv_lconst (v := 0) hx hb dX3_becomeRow_19 (by decide) ?_
  refine gx_ev (wc := ([(e0, .inl (k 1, 40, .inr (.inl (fun _ => 0))))] : va_W)) (wr := [(h0, .inr (1, [.ref e0, .int n, .int 0, .int v]))]) (isC := [1]) (isR := [0]) hP hD hS hA rfl rfl (by decide) (by decide) (gx_runS (na := 2) (As := [.ref e0, .long 0]) (rest := []) C hl.1 hK (gx_subP (wc := ([(e0, .inl (k 1, 40, .inr (.inl (fun _ => 0))))] : va_W)) hP [1] rfl) ((hD.sub (ws' := ([(e0, .inl (k 1, 40, .inr (.inl (fun _ => 0))))] : va_W)) [1] (by decide) rfl).weaken (fun _ _ _ _ => trivial)) (k_fillJ l D k e0 40 (fun _ => 0) 0 (Nat.le_of_ble_eq_true rfl) _) gS_RX3_25 (by decide +kernel) rfl rfl ⟨Nat.le_of_ble_eq_true rfl, Nat.le_of_ble_eq_true rfl⟩ rfl rfl (Nat.le_of_ble_eq_true rfl) dX3_becomeRow_20 ⟨Nat.le_of_ble_eq_true rfl, Nat.le_of_ble_eq_true rfl⟩) (fun u_2 H locs h_3 hP hD hS => ?_)
  obtain ⟨g_1, rfl⟩ : ∃ z, z = u_2 := ⟨_, rfl⟩
  have hP : va_P D gx_cl [(h0, .inr (1, [.ref e0, .int n, .int 0, .int v])), (e0, .inl (k 1, 40, .inr (.inl g_1)))] H := hP
  have hD : va_D A [(h0, .inr (1, [.ref e0, .int n, .int 0, .int v])), (e0, .inl (k 1, 40, .inr (.inl g_1)))] := hD
  exact gx_retV C (u := ()) gx_nil gx_noneD hS (trivial) dX3_becomeRow_23
set_option maxHeartbeats 4000000 in
set_option maxRecDepth 100000 in
theorem k_becomeRule (l : Launch) (D : va_G) (k : Nat → ClassId) (h0 : Nat) (e0 : Nat) (v : Int32) (n : Int32) (sz : Nat) : Met l yX3_becomeRule (.code yX3_becomeRule cX3_becomeRule 3 none :: gx_T) ({ frames := 0, cells := 0, slots := 0, locals := 0 }) (gx_Pre D k [.ref h0, .int v, .int n] ([(h0, .inr (1, [.ref e0, .int 0, .int 0, .int (-1)]))]) sz) (gx_Qv D (fun (u : Unit) => True) (fun (u : Unit) => ([] : va_W)) (va_A ([(h0, .inr (1, [.ref e0, .int 0, .int 0, .int (-1)]))]) sz)) 0 0 (va_A ([(h0, .inr (1, [.ref e0, .int 0, .int 0, .int (-1)]))]) sz) := by
  refine gx_metE (Qc := fun A => gx_Qv D (fun (u : Unit) => True) (fun (u : Unit) => ([] : va_W)) A) (by decide) (Nat.le_of_ble_eq_true rfl) ?_
  intro p e s m below meth c A ls C hA hP hD hK hS hl
  obtain ⟨hx, hb, hr, hml, hown, hT, hlk, hin⟩ := id C
  have hown : s.vm.findClass RX3 = some m.cls := hown
  have hl : lv_has ls 3 [(0, .ref h0), (1, .int v), (2, .int n)] := hl
  refine lv_aload_n hx hb dX3_becomeRule_0 rfl (lv_at hl 0 rfl) ?_
  refine lv_bipush (v := 10) hx hb dX3_becomeRule_1 (by decide) ?_
  refine lv_iload_n hx hb dX3_becomeRule_3 rfl (lv_at hl 1 rfl) ?_
  refine lv_iadd hx hb dX3_becomeRule_4 ?_
  refine va_put (D := D) (ci := 1) (v := .int ((10 : Int32) + v)) (ty := .int) (C := RX3) (T := TX3) (N := 4) hx hb hT iw_TX3 tyX3 tyX3_ok nmX3 hown hK.1 hP hD hS 0 rfl rfl 3 (by decide) (hT _ wd_259) (fun _ h9 => h9) rfl (by decide +kernel) rfl rfl (Nat.le_of_ble_eq_true rfl) dX3_becomeRule_5 (fun H locs hP hD hS => ?_)
  have hP : va_P D gx_cl [(h0, .inr (1, [.ref e0, .int 0, .int 0, .int ((10 : Int32) + v)]))] H := hP
  have hD : va_D A [(h0, .inr (1, [.ref e0, .int 0, .int 0, .int ((10 : Int32) + v)]))] := hD
  refine lv_aload_n hx hb dX3_becomeRule_8 rfl (lv_at hl 0 rfl) ?_
  refine lv_iconst (v := 0) hx hb dX3_becomeRule_9 (by decide) ?_
  refine va_put (D := D) (ci := 1) (v := .int 0) (ty := .int) (C := RX3) (T := TX3) (N := 4) hx hb hT iw_TX3 tyX3 tyX3_ok nmX3 hown hK.1 hP hD hS 0 rfl rfl 1 (by decide) (hT _ wd_255) (fun _ h9 => h9) rfl (by decide +kernel) rfl rfl (Nat.le_of_ble_eq_true rfl) dX3_becomeRule_10 (fun H locs hP hD hS => ?_)
  have hP : va_P D gx_cl [(h0, .inr (1, [.ref e0, .int 0, .int 0, .int ((10 : Int32) + v)]))] H := hP
  have hD : va_D A [(h0, .inr (1, [.ref e0, .int 0, .int 0, .int ((10 : Int32) + v)]))] := hD
  refine lv_aload_n hx hb dX3_becomeRule_13 rfl (lv_at hl 0 rfl) ?_
  refine lv_iload_n hx hb dX3_becomeRule_14 rfl (lv_at hl 2 rfl) ?_
  refine va_put (D := D) (ci := 1) (v := .int n) (ty := .int) (C := RX3) (T := TX3) (N := 4) hx hb hT iw_TX3 tyX3 tyX3_ok nmX3 hown hK.1 hP hD hS 0 rfl rfl 2 (by decide) (hT _ wd_257) (fun _ h9 => h9) rfl (by decide +kernel) rfl rfl (Nat.le_of_ble_eq_true rfl) dX3_becomeRule_15 (fun H locs hP hD hS => ?_)
  have hP : va_P D gx_cl [(h0, .inr (1, [.ref e0, .int 0, .int n, .int ((10 : Int32) + v)]))] H := hP
  have hD : va_D A [(h0, .inr (1, [.ref e0, .int 0, .int n, .int ((10 : Int32) + v)]))] := hD
  exact gx_retV C (u := ()) gx_nil gx_noneD hS (trivial) dX3_becomeRule_18
set_option maxHeartbeats 4000000 in
set_option maxRecDepth 100000 in
theorem k_build (l : Launch) (D : va_G) (k : Nat → ClassId) (h0 : Nat) (a0 : Nat) (a1 : Nat) (a2 : Nat) (a3 : Nat) (a4 : Nat) (a5 : Nat) (a6 : Nat) (a7 : Nat) (a8 : Nat) (x : Int32) (y : Int32) (mi : Int32) (z : Int32) (sz : Nat) : Met l yX1_build (.code yX1_build cX1_build 6 (some .int) :: gx_T) ({ frames := 0, cells := 0, slots := 0, locals := 0 }) (gx_Pre D k [.ref h0, .int x, .int y, .int mi, .int z] ([(h0, .inr (0, [.ref a0, .ref a1, .ref a2, .ref a3, .ref a4, .ref a5, .ref a6, .ref a7, .ref a8, .int 0, .int 0, .int 0, .int 0, .int 1, .int 0, .int 0, .int 0])), (a0, .inl (k 0, 16, .inl (fun _ => 0))), (a1, .inl (k 0, 16, .inl (fun _ => 0))), (a2, .inl (k 0, 16, .inl (fun _ => 0))), (a3, .inl (k 0, 16, .inl (fun _ => 0)))]) sz) (gx_Qi D (fun (r : Int32) (u : Unit) => r = 0) (fun (u : Unit) => ([] : va_W)) (va_A ([(h0, .inr (0, [.ref a0, .ref a1, .ref a2, .ref a3, .ref a4, .ref a5, .ref a6, .ref a7, .ref a8, .int 0, .int 0, .int 0, .int 0, .int 1, .int 0, .int 0, .int 0])), (a0, .inl (k 0, 16, .inl (fun _ => 0))), (a1, .inl (k 0, 16, .inl (fun _ => 0))), (a2, .inl (k 0, 16, .inl (fun _ => 0))), (a3, .inl (k 0, 16, .inl (fun _ => 0)))]) sz)) 0 0 (va_A ([(h0, .inr (0, [.ref a0, .ref a1, .ref a2, .ref a3, .ref a4, .ref a5, .ref a6, .ref a7, .ref a8, .int 0, .int 0, .int 0, .int 0, .int 1, .int 0, .int 0, .int 0])), (a0, .inl (k 0, 16, .inl (fun _ => 0))), (a1, .inl (k 0, 16, .inl (fun _ => 0))), (a2, .inl (k 0, 16, .inl (fun _ => 0))), (a3, .inl (k 0, 16, .inl (fun _ => 0)))]) sz) := by
  refine gx_metE (Qc := fun A => gx_Qi D (fun (r : Int32) (u : Unit) => r = 0) (fun (u : Unit) => ([] : va_W)) A) (by decide) (Nat.le_of_ble_eq_true rfl) ?_
  intro p e s m below meth c A ls C hA hP hD hK hS hl
  obtain ⟨hx, hb, hr, hml, hown, hT, hlk, hin⟩ := id C
  have hown : s.vm.findClass RX1 = some m.cls := hown
  have hl : lv_has ls 6 [(0, .ref h0), (1, .int x), (2, .int y), (3, .int mi), (4, .int z)] := hl
  refine lv_aload_n hx hb dX1_build_0 rfl (lv_at hl 0 rfl) ?_
  refine va_get (D := D) (ci := 0) (v := .int 0) (C := RX1) (T := TX1) (N := 17) hx hb hT iw_TX1 hown hK.1 hP 0 rfl rfl 9 (by decide) (hT _ wd_132) (fun _ h9 => h9) rfl dX1_build_1 ?_
  refine lv_istore (lv' := [(5, .int 0), (0, .ref h0), (1, .int x), (2, .int y), (3, .int mi), (4, .int z)]) hx hb dX1_build_4 hl (by decide) rfl (fun ls hl => ?_)
  refine lv_aload_n hx hb dX1_build_6 rfl (lv_at hl 1 rfl) ?_
  refine va_get (D := D) (ci := 0) (v := .ref a0) (C := RX1) (T := TX1) (N := 17) hx hb hT iw_TX1 hown hK.1 hP 0 rfl rfl 0 (by decide) (hT _ wd_102) (fun _ h9 => h9) rfl dX1_build_7 ?_
  refine lv_iload hx hb dX1_build_10 (lv_at hl 0 rfl) ?_
  refine lv_iload_n hx hb dX1_build_12 rfl (lv_at hl 2 rfl) ?_
  refine va_iast hx hb hK.1 hP hD hS 1 0 rfl rfl (gx_vin rfl) dX1_build_13 (fun H locs hP hD hS => ?_)
  obtain ⟨f_1, ef_1⟩ : ∃ f9, f9 = upd ((fun _ => 0) : Nat → Int32) (0 : Int32).toNatClampNeg (x : Int32) := ⟨_, rfl⟩
  have hP : va_P D gx_cl [(h0, .inr (0, [.ref a0, .ref a1, .ref a2, .ref a3, .ref a4, .ref a5, .ref a6, .ref a7, .ref a8, .int 0, .int 0, .int 0, .int 0, .int 1, .int 0, .int 0, .int 0])), (a0, .inl (k 0, 16, .inl f_1)), (a1, .inl (k 0, 16, .inl (fun _ => 0))), (a2, .inl (k 0, 16, .inl (fun _ => 0))), (a3, .inl (k 0, 16, .inl (fun _ => 0)))] H := by subst ef_1; exact hP
  have hD : va_D A [(h0, .inr (0, [.ref a0, .ref a1, .ref a2, .ref a3, .ref a4, .ref a5, .ref a6, .ref a7, .ref a8, .int 0, .int 0, .int 0, .int 0, .int 1, .int 0, .int 0, .int 0])), (a0, .inl (k 0, 16, .inl f_1)), (a1, .inl (k 0, 16, .inl (fun _ => 0))), (a2, .inl (k 0, 16, .inl (fun _ => 0))), (a3, .inl (k 0, 16, .inl (fun _ => 0)))] := by subst ef_1; exact hD
  refine lv_aload_n hx hb dX1_build_14 rfl (lv_at hl 1 rfl) ?_
  refine va_get (D := D) (ci := 0) (v := .ref a1) (C := RX1) (T := TX1) (N := 17) hx hb hT iw_TX1 hown hK.1 hP 0 rfl rfl 1 (by decide) (hT _ wd_106) (fun _ h9 => h9) rfl dX1_build_15 ?_
  refine lv_iload hx hb dX1_build_18 (lv_at hl 0 rfl) ?_
  refine lv_iload_n hx hb dX1_build_20 rfl (lv_at hl 3 rfl) ?_
  refine va_iast hx hb hK.1 hP hD hS 2 0 rfl rfl (gx_vin rfl) dX1_build_21 (fun H locs hP hD hS => ?_)
  obtain ⟨f_2, ef_2⟩ : ∃ f9, f9 = upd ((fun _ => 0) : Nat → Int32) (0 : Int32).toNatClampNeg (y : Int32) := ⟨_, rfl⟩
  have hP : va_P D gx_cl [(h0, .inr (0, [.ref a0, .ref a1, .ref a2, .ref a3, .ref a4, .ref a5, .ref a6, .ref a7, .ref a8, .int 0, .int 0, .int 0, .int 0, .int 1, .int 0, .int 0, .int 0])), (a0, .inl (k 0, 16, .inl f_1)), (a1, .inl (k 0, 16, .inl f_2)), (a2, .inl (k 0, 16, .inl (fun _ => 0))), (a3, .inl (k 0, 16, .inl (fun _ => 0)))] H := by subst ef_2; exact hP
  have hD : va_D A [(h0, .inr (0, [.ref a0, .ref a1, .ref a2, .ref a3, .ref a4, .ref a5, .ref a6, .ref a7, .ref a8, .int 0, .int 0, .int 0, .int 0, .int 1, .int 0, .int 0, .int 0])), (a0, .inl (k 0, 16, .inl f_1)), (a1, .inl (k 0, 16, .inl f_2)), (a2, .inl (k 0, 16, .inl (fun _ => 0))), (a3, .inl (k 0, 16, .inl (fun _ => 0)))] := by subst ef_2; exact hD
  refine lv_aload_n hx hb dX1_build_22 rfl (lv_at hl 1 rfl) ?_
  refine va_get (D := D) (ci := 0) (v := .ref a2) (C := RX1) (T := TX1) (N := 17) hx hb hT iw_TX1 hown hK.1 hP 0 rfl rfl 2 (by decide) (hT _ wd_110) (fun _ h9 => h9) rfl dX1_build_23 ?_
  refine lv_iload hx hb dX1_build_26 (lv_at hl 0 rfl) ?_
  refine lv_iconst (v := 1) hx hb dX1_build_28 (by decide) ?_
  refine lv_iload_n hx hb dX1_build_29 rfl (lv_at hl 2 rfl) ?_
  refine lv_ishl hx hb dX1_build_30 ?_
  refine lv_iconst (v := 1) hx hb dX1_build_31 (by decide) ?_
  refine lv_iload_n hx hb dX1_build_32 rfl (lv_at hl 3 rfl) ?_
  refine lv_ishl hx hb dX1_build_33 ?_
  refine lv_ior hx hb dX1_build_34 ?_
  refine va_iast hx hb hK.1 hP hD hS 3 0 rfl rfl (gx_vin rfl) dX1_build_35 (fun H locs hP hD hS => ?_)
  obtain ⟨f_3, ef_3⟩ : ∃ f9, f9 = upd ((fun _ => 0) : Nat → Int32) (0 : Int32).toNatClampNeg ((((1 : Int32) <<< (x &&& 31)) ||| ((1 : Int32) <<< (y &&& 31))) : Int32) := ⟨_, rfl⟩
  have hP : va_P D gx_cl [(h0, .inr (0, [.ref a0, .ref a1, .ref a2, .ref a3, .ref a4, .ref a5, .ref a6, .ref a7, .ref a8, .int 0, .int 0, .int 0, .int 0, .int 1, .int 0, .int 0, .int 0])), (a0, .inl (k 0, 16, .inl f_1)), (a1, .inl (k 0, 16, .inl f_2)), (a2, .inl (k 0, 16, .inl f_3)), (a3, .inl (k 0, 16, .inl (fun _ => 0)))] H := by subst ef_3; exact hP
  have hD : va_D A [(h0, .inr (0, [.ref a0, .ref a1, .ref a2, .ref a3, .ref a4, .ref a5, .ref a6, .ref a7, .ref a8, .int 0, .int 0, .int 0, .int 0, .int 1, .int 0, .int 0, .int 0])), (a0, .inl (k 0, 16, .inl f_1)), (a1, .inl (k 0, 16, .inl f_2)), (a2, .inl (k 0, 16, .inl f_3)), (a3, .inl (k 0, 16, .inl (fun _ => 0)))] := by subst ef_3; exact hD
  refine lv_aload_n hx hb dX1_build_36 rfl (lv_at hl 1 rfl) ?_
  refine va_get (D := D) (ci := 0) (v := .ref a3) (C := RX1) (T := TX1) (N := 17) hx hb hT iw_TX1 hown hK.1 hP 0 rfl rfl 3 (by decide) (hT _ wd_113) (fun _ h9 => h9) rfl dX1_build_37 ?_
  refine lv_iload hx hb dX1_build_40 (lv_at hl 0 rfl) ?_
  refine lv_iload_n hx hb dX1_build_42 rfl (lv_at hl 4 rfl) ?_
  refine va_iast hx hb hK.1 hP hD hS 4 0 rfl rfl (gx_vin rfl) dX1_build_43 (fun H locs hP hD hS => ?_)
  obtain ⟨f_4, ef_4⟩ : ∃ f9, f9 = upd ((fun _ => 0) : Nat → Int32) (0 : Int32).toNatClampNeg (mi : Int32) := ⟨_, rfl⟩
  have hP : va_P D gx_cl [(h0, .inr (0, [.ref a0, .ref a1, .ref a2, .ref a3, .ref a4, .ref a5, .ref a6, .ref a7, .ref a8, .int 0, .int 0, .int 0, .int 0, .int 1, .int 0, .int 0, .int 0])), (a0, .inl (k 0, 16, .inl f_1)), (a1, .inl (k 0, 16, .inl f_2)), (a2, .inl (k 0, 16, .inl f_3)), (a3, .inl (k 0, 16, .inl f_4))] H := by subst ef_4; exact hP
  have hD : va_D A [(h0, .inr (0, [.ref a0, .ref a1, .ref a2, .ref a3, .ref a4, .ref a5, .ref a6, .ref a7, .ref a8, .int 0, .int 0, .int 0, .int 0, .int 1, .int 0, .int 0, .int 0])), (a0, .inl (k 0, 16, .inl f_1)), (a1, .inl (k 0, 16, .inl f_2)), (a2, .inl (k 0, 16, .inl f_3)), (a3, .inl (k 0, 16, .inl f_4))] := by subst ef_4; exact hD
  refine lv_iload hx hb dX1_build_44 (lv_at hl 5 rfl) ?_
  refine lv_if_eq (tgt := 62) hx hb dX1_build_46 (by decide) (fun c_5 => ?_) (fun c_5 => ?_)
  · refine lv_aload_n hx hb dX1_build_62 rfl (lv_at hl 1 rfl) ?_
    refine lv_dup hx hb dX1_build_63 rfl ?_
    refine va_get (D := D) (ci := 0) (v := .int 0) (C := RX1) (T := TX1) (N := 17) hx hb hT iw_TX1 hown hK.1 hP 0 rfl rfl 9 (by decide) (hT _ wd_132) (fun _ h9 => h9) rfl dX1_build_64 ?_
    refine lv_iconst (v := 1) hx hb dX1_build_67 (by decide) ?_
    refine lv_iadd hx hb dX1_build_68 ?_
    refine gx_cst (v := 1) (by decide) ?_
    refine va_put (D := D) (ci := 0) (v := .int 1) (ty := .int) (C := RX1) (T := TX1) (N := 17) hx hb hT iw_TX1 tyX1 tyX1_ok nmX1 hown hK.1 hP hD hS 0 rfl rfl 9 (by decide) (hT _ wd_132) (fun _ h9 => h9) rfl (by decide +kernel) rfl rfl (Nat.le_of_ble_eq_true rfl) dX1_build_69 (fun H locs hP hD hS => ?_)
    have hP : va_P D gx_cl [(h0, .inr (0, [.ref a0, .ref a1, .ref a2, .ref a3, .ref a4, .ref a5, .ref a6, .ref a7, .ref a8, .int 1, .int 0, .int 0, .int 0, .int 1, .int 0, .int 0, .int 0])), (a0, .inl (k 0, 16, .inl f_1)), (a1, .inl (k 0, 16, .inl f_2)), (a2, .inl (k 0, 16, .inl f_3)), (a3, .inl (k 0, 16, .inl f_4))] H := hP
    have hD : va_D A [(h0, .inr (0, [.ref a0, .ref a1, .ref a2, .ref a3, .ref a4, .ref a5, .ref a6, .ref a7, .ref a8, .int 1, .int 0, .int 0, .int 0, .int 1, .int 0, .int 0, .int 0])), (a0, .inl (k 0, 16, .inl f_1)), (a1, .inl (k 0, 16, .inl f_2)), (a2, .inl (k 0, 16, .inl f_3)), (a3, .inl (k 0, 16, .inl f_4))] := hD
    refine lv_iload hx hb dX1_build_72 (lv_at hl 0 rfl) ?_
    exact gx_retI C (u := ()) gx_nil gx_noneD hS (rfl) dX1_build_74
  · refine lv_aload_n hx hb dX1_build_49 rfl (lv_at hl 1 rfl) ?_
    refine lv_dup hx hb dX1_build_50 rfl ?_
    refine va_get (D := D) (ci := 0) (v := .int 0) (C := RX1) (T := TX1) (N := 17) hx hb hT iw_TX1 hown hK.1 hP 0 rfl rfl 15 (by decide) (hT _ wd_149) (fun _ h9 => h9) rfl dX1_build_51 ?_
    refine lv_iconst (v := 1) hx hb dX1_build_54 (by decide) ?_
    refine lv_iload hx hb dX1_build_55 (lv_at hl 0 rfl) ?_
    refine lv_ishl hx hb dX1_build_57 ?_
    refine gx_cst (v := 1) (by decide) ?_
    refine lv_ior hx hb dX1_build_58 ?_
    refine gx_cst (v := 1) (by decide) ?_
    refine va_put (D := D) (ci := 0) (v := .int 1) (ty := .int) (C := RX1) (T := TX1) (N := 17) hx hb hT iw_TX1 tyX1 tyX1_ok nmX1 hown hK.1 hP hD hS 0 rfl rfl 15 (by decide) (hT _ wd_149) (fun _ h9 => h9) rfl (by decide +kernel) rfl rfl (Nat.le_of_ble_eq_true rfl) dX1_build_59 (fun H locs hP hD hS => ?_)
    have hP : va_P D gx_cl [(h0, .inr (0, [.ref a0, .ref a1, .ref a2, .ref a3, .ref a4, .ref a5, .ref a6, .ref a7, .ref a8, .int 0, .int 0, .int 0, .int 0, .int 1, .int 0, .int 1, .int 0])), (a0, .inl (k 0, 16, .inl f_1)), (a1, .inl (k 0, 16, .inl f_2)), (a2, .inl (k 0, 16, .inl f_3)), (a3, .inl (k 0, 16, .inl f_4))] H := hP
    have hD : va_D A [(h0, .inr (0, [.ref a0, .ref a1, .ref a2, .ref a3, .ref a4, .ref a5, .ref a6, .ref a7, .ref a8, .int 0, .int 0, .int 0, .int 0, .int 1, .int 0, .int 1, .int 0])), (a0, .inl (k 0, 16, .inl f_1)), (a1, .inl (k 0, 16, .inl f_2)), (a2, .inl (k 0, 16, .inl f_3)), (a3, .inl (k 0, 16, .inl f_4))] := hD
    refine lv_aload_n hx hb dX1_build_62 rfl (lv_at hl 1 rfl) ?_
    refine lv_dup hx hb dX1_build_63 rfl ?_
    refine va_get (D := D) (ci := 0) (v := .int 0) (C := RX1) (T := TX1) (N := 17) hx hb hT iw_TX1 hown hK.1 hP 0 rfl rfl 9 (by decide) (hT _ wd_132) (fun _ h9 => h9) rfl dX1_build_64 ?_
    refine lv_iconst (v := 1) hx hb dX1_build_67 (by decide) ?_
    refine lv_iadd hx hb dX1_build_68 ?_
    refine gx_cst (v := 1) (by decide) ?_
    refine va_put (D := D) (ci := 0) (v := .int 1) (ty := .int) (C := RX1) (T := TX1) (N := 17) hx hb hT iw_TX1 tyX1 tyX1_ok nmX1 hown hK.1 hP hD hS 0 rfl rfl 9 (by decide) (hT _ wd_132) (fun _ h9 => h9) rfl (by decide +kernel) rfl rfl (Nat.le_of_ble_eq_true rfl) dX1_build_69 (fun H locs hP hD hS => ?_)
    have hP : va_P D gx_cl [(h0, .inr (0, [.ref a0, .ref a1, .ref a2, .ref a3, .ref a4, .ref a5, .ref a6, .ref a7, .ref a8, .int 1, .int 0, .int 0, .int 0, .int 1, .int 0, .int 1, .int 0])), (a0, .inl (k 0, 16, .inl f_1)), (a1, .inl (k 0, 16, .inl f_2)), (a2, .inl (k 0, 16, .inl f_3)), (a3, .inl (k 0, 16, .inl f_4))] H := hP
    have hD : va_D A [(h0, .inr (0, [.ref a0, .ref a1, .ref a2, .ref a3, .ref a4, .ref a5, .ref a6, .ref a7, .ref a8, .int 1, .int 0, .int 0, .int 0, .int 1, .int 0, .int 1, .int 0])), (a0, .inl (k 0, 16, .inl f_1)), (a1, .inl (k 0, 16, .inl f_2)), (a2, .inl (k 0, 16, .inl f_3)), (a3, .inl (k 0, 16, .inl f_4))] := hD
    refine lv_iload hx hb dX1_build_72 (lv_at hl 0 rfl) ?_
    exact gx_retI C (u := ()) gx_nil gx_noneD hS (rfl) dX1_build_74
set_option maxHeartbeats 4000000 in
set_option maxRecDepth 100000 in
theorem k_put (l : Launch) (D : va_G) (k : Nat → ClassId) (h0 : Nat) (a0 : Nat) (a1 : Nat) (a2 : Nat) (a3 : Nat) (a4 : Nat) (a5 : Nat) (a6 : Nat) (a7 : Nat) (a8 : Nat) (x : Int32) (sz : Nat) : Met l yX1_put (.code yX1_put cX1_put 3 none :: gx_T) ({ frames := 0, cells := 0, slots := 0, locals := 0 }) (gx_Pre D k [.ref h0, .int 0, .int x] ([(h0, .inr (0, [.ref a0, .ref a1, .ref a2, .ref a3, .ref a4, .ref a5, .ref a6, .ref a7, .ref a8, .int 0, .int 1, .int 0, .int 0, .int 1, .int 0, .int 0, .int 0])), (a5, .inl (k 0, 6, .inl (fun _ => 0))), (a6, .inl (k 0, 6, .inl (fun _ => 0)))]) sz) (gx_Qv D (fun (u : Unit) => True) (fun (u : Unit) => ([] : va_W)) (va_A ([(h0, .inr (0, [.ref a0, .ref a1, .ref a2, .ref a3, .ref a4, .ref a5, .ref a6, .ref a7, .ref a8, .int 0, .int 1, .int 0, .int 0, .int 1, .int 0, .int 0, .int 0])), (a5, .inl (k 0, 6, .inl (fun _ => 0))), (a6, .inl (k 0, 6, .inl (fun _ => 0)))]) sz)) 0 0 (va_A ([(h0, .inr (0, [.ref a0, .ref a1, .ref a2, .ref a3, .ref a4, .ref a5, .ref a6, .ref a7, .ref a8, .int 0, .int 1, .int 0, .int 0, .int 1, .int 0, .int 0, .int 0])), (a5, .inl (k 0, 6, .inl (fun _ => 0))), (a6, .inl (k 0, 6, .inl (fun _ => 0)))]) sz) := by
  refine gx_metE (Qc := fun A => gx_Qv D (fun (u : Unit) => True) (fun (u : Unit) => ([] : va_W)) A) (by decide) (Nat.le_of_ble_eq_true rfl) ?_
  intro p e s m below meth c A ls C hA hP hD hK hS hl
  obtain ⟨hx, hb, hr, hml, hown, hT, hlk, hin⟩ := id C
  have hown : s.vm.findClass RX1 = some m.cls := hown
  have hl : lv_has ls 3 [(0, .ref h0), (1, .int 0), (2, .int x)] := hl
  refine lv_aload_n hx hb dX1_put_0 rfl (lv_at hl 0 rfl) ?_
  refine va_get (D := D) (ci := 0) (v := .ref a5) (C := RX1) (T := TX1) (N := 17) hx hb hT iw_TX1 hown hK.1 hP 0 rfl rfl 5 (by decide) (hT _ wd_121) (fun _ h9 => h9) rfl dX1_put_1 ?_
  refine lv_iload_n hx hb dX1_put_4 rfl (lv_at hl 1 rfl) ?_
  refine lv_iload_n hx hb dX1_put_5 rfl (lv_at hl 2 rfl) ?_
  refine va_iast hx hb hK.1 hP hD hS 1 0 rfl rfl (gx_vin rfl) dX1_put_6 (fun H locs hP hD hS => ?_)
  obtain ⟨f_1, ef_1⟩ : ∃ f9, f9 = upd ((fun _ => 0) : Nat → Int32) (0 : Int32).toNatClampNeg (x : Int32) := ⟨_, rfl⟩
  have hP : va_P D gx_cl [(h0, .inr (0, [.ref a0, .ref a1, .ref a2, .ref a3, .ref a4, .ref a5, .ref a6, .ref a7, .ref a8, .int 0, .int 1, .int 0, .int 0, .int 1, .int 0, .int 0, .int 0])), (a5, .inl (k 0, 6, .inl f_1)), (a6, .inl (k 0, 6, .inl (fun _ => 0)))] H := by subst ef_1; exact hP
  have hD : va_D A [(h0, .inr (0, [.ref a0, .ref a1, .ref a2, .ref a3, .ref a4, .ref a5, .ref a6, .ref a7, .ref a8, .int 0, .int 1, .int 0, .int 0, .int 1, .int 0, .int 0, .int 0])), (a5, .inl (k 0, 6, .inl f_1)), (a6, .inl (k 0, 6, .inl (fun _ => 0)))] := by subst ef_1; exact hD
  refine lv_aload_n hx hb dX1_put_7 rfl (lv_at hl 0 rfl) ?_
  refine va_get (D := D) (ci := 0) (v := .ref a6) (C := RX1) (T := TX1) (N := 17) hx hb hT iw_TX1 hown hK.1 hP 0 rfl rfl 6 (by decide) (hT _ wd_124) (fun _ h9 => h9) rfl dX1_put_8 ?_
  refine lv_iload_n hx hb dX1_put_11 rfl (lv_at hl 1 rfl) ?_
  refine lv_dup2_11 hx hb dX1_put_12 rfl rfl ?_
  refine va_iald hx hb hK.1 hP 2 0 rfl rfl (gx_vin rfl) dX1_put_13 ?_
  refine gx_cst (v := 0) (rfl) ?_
  refine lv_iconst (v := 1) hx hb dX1_put_14 (by decide) ?_
  refine lv_iload_n hx hb dX1_put_15 rfl (lv_at hl 2 rfl) ?_
  refine lv_ishl hx hb dX1_put_16 ?_
  refine lv_ior hx hb dX1_put_17 ?_
  refine va_iast hx hb hK.1 hP hD hS 2 0 rfl rfl (gx_vin rfl) dX1_put_18 (fun H locs hP hD hS => ?_)
  obtain ⟨f_2, ef_2⟩ : ∃ f9, f9 = upd ((fun _ => 0) : Nat → Int32) (0 : Int32).toNatClampNeg (((0 : Int32) ||| ((1 : Int32) <<< (x &&& 31))) : Int32) := ⟨_, rfl⟩
  have hP : va_P D gx_cl [(h0, .inr (0, [.ref a0, .ref a1, .ref a2, .ref a3, .ref a4, .ref a5, .ref a6, .ref a7, .ref a8, .int 0, .int 1, .int 0, .int 0, .int 1, .int 0, .int 0, .int 0])), (a5, .inl (k 0, 6, .inl f_1)), (a6, .inl (k 0, 6, .inl f_2))] H := by subst ef_2; exact hP
  have hD : va_D A [(h0, .inr (0, [.ref a0, .ref a1, .ref a2, .ref a3, .ref a4, .ref a5, .ref a6, .ref a7, .ref a8, .int 0, .int 1, .int 0, .int 0, .int 1, .int 0, .int 0, .int 0])), (a5, .inl (k 0, 6, .inl f_1)), (a6, .inl (k 0, 6, .inl f_2))] := by subst ef_2; exact hD
  exact gx_retV C (u := ()) gx_nil gx_noneD hS (trivial) dX1_put_19
set_option maxHeartbeats 4000000 in
set_option maxRecDepth 100000 in
theorem k_settle (l : Launch) (D : va_G) (k : Nat → ClassId) (h0 : Nat) (a0 : Nat) (a1 : Nat) (a2 : Nat) (a3 : Nat) (a4 : Nat) (a5 : Nat) (a6 : Nat) (a7 : Nat) (a8 : Nat) (x : Int32) (sz : Nat) : Met l yX1_settle (.code yX1_settle cX1_settle 3 (some .int) :: gx_T) ({ frames := 1, cells := 0, slots := 0, locals := 22 }) (gx_Pre D k [.ref h0, .int x] ([(h0, .inr (0, [.ref a0, .ref a1, .ref a2, .ref a3, .ref a4, .ref a5, .ref a6, .ref a7, .ref a8, .int 0, .int 0, .int 0, .int 0, .int 1, .int 0, .int 0, .int 0])), (a4, .inl (k 0, 6, .inl (fun _ => 0))), (a5, .inl (k 0, 6, .inl (fun _ => 0))), (a6, .inl (k 0, 6, .inl (fun _ => 0)))]) sz) (gx_Qi D (fun (r : Int32) (u : Unit) => r = 0) (fun (u : Unit) => ([] : va_W)) (va_A ([(h0, .inr (0, [.ref a0, .ref a1, .ref a2, .ref a3, .ref a4, .ref a5, .ref a6, .ref a7, .ref a8, .int 0, .int 0, .int 0, .int 0, .int 1, .int 0, .int 0, .int 0])), (a4, .inl (k 0, 6, .inl (fun _ => 0))), (a5, .inl (k 0, 6, .inl (fun _ => 0))), (a6, .inl (k 0, 6, .inl (fun _ => 0)))]) sz)) 0 0 (va_A ([(h0, .inr (0, [.ref a0, .ref a1, .ref a2, .ref a3, .ref a4, .ref a5, .ref a6, .ref a7, .ref a8, .int 0, .int 0, .int 0, .int 0, .int 1, .int 0, .int 0, .int 0])), (a4, .inl (k 0, 6, .inl (fun _ => 0))), (a5, .inl (k 0, 6, .inl (fun _ => 0))), (a6, .inl (k 0, 6, .inl (fun _ => 0)))]) sz) := by
  refine gx_metE (Qc := fun A => gx_Qi D (fun (r : Int32) (u : Unit) => r = 0) (fun (u : Unit) => ([] : va_W)) A) (by decide) (Nat.le_of_ble_eq_true rfl) ?_
  intro p e s m below meth c A ls C hA hP hD hK hS hl
  obtain ⟨hx, hb, hr, hml, hown, hT, hlk, hin⟩ := id C
  have hown : s.vm.findClass RX1 = some m.cls := hown
  have hl : lv_has ls 3 [(0, .ref h0), (1, .int x)] := hl
  refine lv_aload_n hx hb dX1_settle_0 rfl (lv_at hl 0 rfl) ?_
  refine va_get (D := D) (ci := 0) (v := .int 0) (C := RX1) (T := TX1) (N := 17) hx hb hT iw_TX1 hown hK.1 hP 0 rfl rfl 10 (by decide) (hT _ wd_136) (fun _ h9 => h9) rfl dX1_settle_1 ?_
  refine lv_istore_n (lv' := [(2, .int 0), (0, .ref h0), (1, .int x)]) hx hb dX1_settle_4 rfl hl (by decide) rfl (fun ls hl => ?_)
  refine lv_aload_n hx hb dX1_settle_5 rfl (lv_at hl 1 rfl) ?_
  refine va_get (D := D) (ci := 0) (v := .ref a4) (C := RX1) (T := TX1) (N := 17) hx hb hT iw_TX1 hown hK.1 hP 0 rfl rfl 4 (by decide) (hT _ wd_118) (fun _ h9 => h9) rfl dX1_settle_6 ?_
  refine lv_iload_n hx hb dX1_settle_9 rfl (lv_at hl 0 rfl) ?_
  refine lv_iload_n hx hb dX1_settle_10 rfl (lv_at hl 2 rfl) ?_
  refine va_iast hx hb hK.1 hP hD hS 1 0 rfl rfl (gx_vin rfl) dX1_settle_11 (fun H locs hP hD hS => ?_)
  obtain ⟨f_1, ef_1⟩ : ∃ f9, f9 = upd ((fun _ => 0) : Nat → Int32) (0 : Int32).toNatClampNeg (x : Int32) := ⟨_, rfl⟩
  have hP : va_P D gx_cl [(h0, .inr (0, [.ref a0, .ref a1, .ref a2, .ref a3, .ref a4, .ref a5, .ref a6, .ref a7, .ref a8, .int 0, .int 0, .int 0, .int 0, .int 1, .int 0, .int 0, .int 0])), (a4, .inl (k 0, 6, .inl f_1)), (a5, .inl (k 0, 6, .inl (fun _ => 0))), (a6, .inl (k 0, 6, .inl (fun _ => 0)))] H := by subst ef_1; exact hP
  have hD : va_D A [(h0, .inr (0, [.ref a0, .ref a1, .ref a2, .ref a3, .ref a4, .ref a5, .ref a6, .ref a7, .ref a8, .int 0, .int 0, .int 0, .int 0, .int 1, .int 0, .int 0, .int 0])), (a4, .inl (k 0, 6, .inl f_1)), (a5, .inl (k 0, 6, .inl (fun _ => 0))), (a6, .inl (k 0, 6, .inl (fun _ => 0)))] := by subst ef_1; exact hD
  refine lv_aload_n hx hb dX1_settle_12 rfl (lv_at hl 1 rfl) ?_
  refine lv_dup hx hb dX1_settle_13 rfl ?_
  refine va_get (D := D) (ci := 0) (v := .int 0) (C := RX1) (T := TX1) (N := 17) hx hb hT iw_TX1 hown hK.1 hP 0 rfl rfl 10 (by decide) (hT _ wd_136) (fun _ h9 => h9) rfl dX1_settle_14 ?_
  refine lv_iconst (v := 1) hx hb dX1_settle_17 (by decide) ?_
  refine lv_iadd hx hb dX1_settle_18 ?_
  refine gx_cst (v := 1) (by decide) ?_
  refine va_put (D := D) (ci := 0) (v := .int 1) (ty := .int) (C := RX1) (T := TX1) (N := 17) hx hb hT iw_TX1 tyX1 tyX1_ok nmX1 hown hK.1 hP hD hS 0 rfl rfl 10 (by decide) (hT _ wd_136) (fun _ h9 => h9) rfl (by decide +kernel) rfl rfl (Nat.le_of_ble_eq_true rfl) dX1_settle_19 (fun H locs hP hD hS => ?_)
  have hP : va_P D gx_cl [(h0, .inr (0, [.ref a0, .ref a1, .ref a2, .ref a3, .ref a4, .ref a5, .ref a6, .ref a7, .ref a8, .int 0, .int 1, .int 0, .int 0, .int 1, .int 0, .int 0, .int 0])), (a4, .inl (k 0, 6, .inl f_1)), (a5, .inl (k 0, 6, .inl (fun _ => 0))), (a6, .inl (k 0, 6, .inl (fun _ => 0)))] H := hP
  have hD : va_D A [(h0, .inr (0, [.ref a0, .ref a1, .ref a2, .ref a3, .ref a4, .ref a5, .ref a6, .ref a7, .ref a8, .int 0, .int 1, .int 0, .int 0, .int 1, .int 0, .int 0, .int 0])), (a4, .inl (k 0, 6, .inl f_1)), (a5, .inl (k 0, 6, .inl (fun _ => 0))), (a6, .inl (k 0, 6, .inl (fun _ => 0)))] := hD
  refine lv_aload_n hx hb dX1_settle_22 rfl (lv_at hl 1 rfl) ?_
  refine lv_iload_n hx hb dX1_settle_23 rfl (lv_at hl 0 rfl) ?_
  refine lv_iload_n hx hb dX1_settle_24 rfl (lv_at hl 2 rfl) ?_
  refine gx_ev (wc := ([(h0, .inr (0, [.ref a0, .ref a1, .ref a2, .ref a3, .ref a4, .ref a5, .ref a6, .ref a7, .ref a8, .int 0, .int 1, .int 0, .int 0, .int 1, .int 0, .int 0, .int 0])), (a5, .inl (k 0, 6, .inl (fun _ => 0))), (a6, .inl (k 0, 6, .inl (fun _ => 0)))] : va_W)) (wr := [(a4, .inl (k 0, 6, .inl f_1))]) (isC := [0, 2, 3]) (isR := [1]) hP hD hS hA rfl rfl (by decide) (by decide) (gx_runV (na := 2) (As := [.int 0, .int x]) (rest := []) (ci := 0) C hl.1 hK (gx_subP (wc := ([(h0, .inr (0, [.ref a0, .ref a1, .ref a2, .ref a3, .ref a4, .ref a5, .ref a6, .ref a7, .ref a8, .int 0, .int 1, .int 0, .int 0, .int 1, .int 0, .int 0, .int 0])), (a5, .inl (k 0, 6, .inl (fun _ => 0))), (a6, .inl (k 0, 6, .inl (fun _ => 0)))] : va_W)) hP [0, 2, 3] rfl) ((hD.sub (ws' := ([(h0, .inr (0, [.ref a0, .ref a1, .ref a2, .ref a3, .ref a4, .ref a5, .ref a6, .ref a7, .ref a8, .int 0, .int 1, .int 0, .int 0, .int 1, .int 0, .int 0, .int 0])), (a5, .inl (k 0, 6, .inl (fun _ => 0))), (a6, .inl (k 0, 6, .inl (fun _ => 0)))] : va_W)) [0, 2, 3] (by decide) rfl).weaken (fun _ _ _ _ => trivial)) (k_put l D k h0 a0 a1 a2 a3 a4 a5 a6 a7 a8 x _) gV_RX1_76 (by decide +kernel) rfl rfl ⟨Nat.le_of_ble_eq_true rfl, Nat.le_of_ble_eq_true rfl⟩ rfl rfl rfl rfl (Nat.le_of_ble_eq_true rfl) dX1_settle_25 ⟨Nat.le_of_ble_eq_true rfl, Nat.le_of_ble_eq_true rfl⟩) (fun u_2 H locs h_3 hP hD hS => ?_)
  have hP : va_P D gx_cl [(a4, .inl (k 0, 6, .inl f_1))] H := hP
  have hD : va_D A [(a4, .inl (k 0, 6, .inl f_1))] := hD
  refine lv_iload_n hx hb dX1_settle_28 rfl (lv_at hl 0 rfl) ?_
  exact gx_retI C (u := ()) gx_nil gx_noneD hS (rfl) dX1_settle_29
set_option maxHeartbeats 4000000 in
set_option maxRecDepth 100000 in
theorem k_become (l : Launch) (D : va_G) (k : Nat → ClassId) (h0 : Nat) (a0 : Nat) (a1 : Nat) (a2 : Nat) (a3 : Nat) (a4 : Nat) (a5 : Nat) (a6 : Nat) (a7 : Nat) (a8 : Nat) (h1 : Nat) (b0 : Nat) (b1 : Nat) (b2 : Nat) (b3 : Nat) (b4 : Nat) (b5 : Nat) (b6 : Nat) (b7 : Nat) (b8 : Nat) (f8 : Nat → Int32) (g8 : Nat → Int32) (sz : Nat) : Met l yX1_become (.code yX1_become cX1_become 2 none :: gx_T) ({ frames := 1, cells := 0, slots := 0, locals := 60 }) (gx_Pre D k [.ref h0, .ref h1] ([(h0, .inr (0, [.ref a0, .ref a1, .ref a2, .ref a3, .ref a4, .ref a5, .ref a6, .ref a7, .ref a8, .int 0, .int 0, .int 0, .int 0, .int 1, .int 0, .int 0, .int 0])), (h1, .inr (0, [.ref b0, .ref b1, .ref b2, .ref b3, .ref b4, .ref b5, .ref b6, .ref b7, .ref b8, .int 0, .int 0, .int 0, .int 0, .int 1, .int 0, .int 0, .int 0])), (a0, .inl (k 0, 16, .inl (fun _ => 0))), (a1, .inl (k 0, 16, .inl (fun _ => 0))), (a2, .inl (k 0, 16, .inl (fun _ => 0))), (a3, .inl (k 0, 16, .inl (fun _ => 0))), (a4, .inl (k 0, 6, .inl (fun _ => 0))), (a5, .inl (k 0, 6, .inl (fun _ => 0))), (a6, .inl (k 0, 6, .inl (fun _ => 0))), (a7, .inl (k 0, 6, .inl (fun _ => 0))), (a8, .inl (k 0, 96, .inl f8)), (b0, .inl (k 0, 16, .inl (fun _ => 0))), (b1, .inl (k 0, 16, .inl (fun _ => 0))), (b2, .inl (k 0, 16, .inl (fun _ => 0))), (b3, .inl (k 0, 16, .inl (fun _ => 0))), (b4, .inl (k 0, 6, .inl (fun _ => 0))), (b5, .inl (k 0, 6, .inl (fun _ => 0))), (b6, .inl (k 0, 6, .inl (fun _ => 0))), (b7, .inl (k 0, 6, .inl (fun _ => 0))), (b8, .inl (k 0, 96, .inl g8))]) sz) (gx_Qv D (fun (u : Unit) => True) (fun (u : Unit) => ([(h0, .inr (0, [.ref a0, .ref a1, .ref a2, .ref a3, .ref a4, .ref a5, .ref a6, .ref a7, .ref a8, .int 0, .int 0, .int 0, .int 0, .int 1, .int 0, .int 0, .int 0]))] : va_W)) (va_A ([(h0, .inr (0, [.ref a0, .ref a1, .ref a2, .ref a3, .ref a4, .ref a5, .ref a6, .ref a7, .ref a8, .int 0, .int 0, .int 0, .int 0, .int 1, .int 0, .int 0, .int 0])), (h1, .inr (0, [.ref b0, .ref b1, .ref b2, .ref b3, .ref b4, .ref b5, .ref b6, .ref b7, .ref b8, .int 0, .int 0, .int 0, .int 0, .int 1, .int 0, .int 0, .int 0])), (a0, .inl (k 0, 16, .inl (fun _ => 0))), (a1, .inl (k 0, 16, .inl (fun _ => 0))), (a2, .inl (k 0, 16, .inl (fun _ => 0))), (a3, .inl (k 0, 16, .inl (fun _ => 0))), (a4, .inl (k 0, 6, .inl (fun _ => 0))), (a5, .inl (k 0, 6, .inl (fun _ => 0))), (a6, .inl (k 0, 6, .inl (fun _ => 0))), (a7, .inl (k 0, 6, .inl (fun _ => 0))), (a8, .inl (k 0, 96, .inl f8)), (b0, .inl (k 0, 16, .inl (fun _ => 0))), (b1, .inl (k 0, 16, .inl (fun _ => 0))), (b2, .inl (k 0, 16, .inl (fun _ => 0))), (b3, .inl (k 0, 16, .inl (fun _ => 0))), (b4, .inl (k 0, 6, .inl (fun _ => 0))), (b5, .inl (k 0, 6, .inl (fun _ => 0))), (b6, .inl (k 0, 6, .inl (fun _ => 0))), (b7, .inl (k 0, 6, .inl (fun _ => 0))), (b8, .inl (k 0, 96, .inl g8))]) sz)) 0 0 (va_A ([(h0, .inr (0, [.ref a0, .ref a1, .ref a2, .ref a3, .ref a4, .ref a5, .ref a6, .ref a7, .ref a8, .int 0, .int 0, .int 0, .int 0, .int 1, .int 0, .int 0, .int 0])), (h1, .inr (0, [.ref b0, .ref b1, .ref b2, .ref b3, .ref b4, .ref b5, .ref b6, .ref b7, .ref b8, .int 0, .int 0, .int 0, .int 0, .int 1, .int 0, .int 0, .int 0])), (a0, .inl (k 0, 16, .inl (fun _ => 0))), (a1, .inl (k 0, 16, .inl (fun _ => 0))), (a2, .inl (k 0, 16, .inl (fun _ => 0))), (a3, .inl (k 0, 16, .inl (fun _ => 0))), (a4, .inl (k 0, 6, .inl (fun _ => 0))), (a5, .inl (k 0, 6, .inl (fun _ => 0))), (a6, .inl (k 0, 6, .inl (fun _ => 0))), (a7, .inl (k 0, 6, .inl (fun _ => 0))), (a8, .inl (k 0, 96, .inl f8)), (b0, .inl (k 0, 16, .inl (fun _ => 0))), (b1, .inl (k 0, 16, .inl (fun _ => 0))), (b2, .inl (k 0, 16, .inl (fun _ => 0))), (b3, .inl (k 0, 16, .inl (fun _ => 0))), (b4, .inl (k 0, 6, .inl (fun _ => 0))), (b5, .inl (k 0, 6, .inl (fun _ => 0))), (b6, .inl (k 0, 6, .inl (fun _ => 0))), (b7, .inl (k 0, 6, .inl (fun _ => 0))), (b8, .inl (k 0, 96, .inl g8))]) sz) := by
  refine gx_metE (Qc := fun A => gx_Qv D (fun (u : Unit) => True) (fun (u : Unit) => ([(h0, .inr (0, [.ref a0, .ref a1, .ref a2, .ref a3, .ref a4, .ref a5, .ref a6, .ref a7, .ref a8, .int 0, .int 0, .int 0, .int 0, .int 1, .int 0, .int 0, .int 0]))] : va_W)) A) (by decide) (Nat.le_of_ble_eq_true rfl) ?_
  intro p e s m below meth c A ls C hA hP hD hK hS hl
  obtain ⟨hx, hb, hr, hml, hown, hT, hlk, hin⟩ := id C
  have hown : s.vm.findClass RX1 = some m.cls := hown
  have hl : lv_has ls 2 [(0, .ref h0), (1, .ref h1)] := hl
  refine lv_aload_n hx hb dX1_become_0 rfl (lv_at hl 1 rfl) ?_
  refine va_get (D := D) (ci := 0) (v := .ref b0) (C := RX1) (T := TX1) (N := 17) hx hb hT iw_TX1 hown hK.1 hP 1 rfl rfl 0 (by decide) (hT _ wd_102) (fun _ h9 => h9) rfl dX1_become_1 ?_
  refine lv_iconst (v := 0) hx hb dX1_become_4 (by decide) ?_
  refine lv_aload_n hx hb dX1_become_5 rfl (lv_at hl 0 rfl) ?_
  refine va_get (D := D) (ci := 0) (v := .ref a0) (C := RX1) (T := TX1) (N := 17) hx hb hT iw_TX1 hown hK.1 hP 0 rfl rfl 0 (by decide) (hT _ wd_102) (fun _ h9 => h9) rfl dX1_become_6 ?_
  refine lv_iconst (v := 0) hx hb dX1_become_9 (by decide) ?_
  refine lv_bipush (v := 16) hx hb dX1_become_10 (by decide) ?_
  refine va_copyi (ty := .int) hx hb (hml.trans hl.1.symm) hown (hT _ wd_513) (hT _ wd_356) (hT _ wd_355) (hT _ wd_76) hK.1 hP hD hS 11 2 0 0 rfl rfl rfl rfl rfl (by decide) (by decide) (by decide) (by decide) (by decide) (fun _ _ => rfl) (Nat.le_of_ble_eq_true rfl) (by decide +kernel) dX1_become_12 (fun H locs hP hD hS => ?_)
  obtain ⟨f_1, ef_1⟩ : ∃ f9, f9 = va_cpy ((fun _ => 0) : Nat → Int32) ((fun _ => 0) : Nat → Int32) (0 : Int32).toNatClampNeg (0 : Int32).toNatClampNeg (16 : Int32).toNatClampNeg := ⟨_, rfl⟩
  have hP : va_P D gx_cl [(h0, .inr (0, [.ref a0, .ref a1, .ref a2, .ref a3, .ref a4, .ref a5, .ref a6, .ref a7, .ref a8, .int 0, .int 0, .int 0, .int 0, .int 1, .int 0, .int 0, .int 0])), (h1, .inr (0, [.ref b0, .ref b1, .ref b2, .ref b3, .ref b4, .ref b5, .ref b6, .ref b7, .ref b8, .int 0, .int 0, .int 0, .int 0, .int 1, .int 0, .int 0, .int 0])), (a0, .inl (k 0, 16, .inl f_1)), (a1, .inl (k 0, 16, .inl (fun _ => 0))), (a2, .inl (k 0, 16, .inl (fun _ => 0))), (a3, .inl (k 0, 16, .inl (fun _ => 0))), (a4, .inl (k 0, 6, .inl (fun _ => 0))), (a5, .inl (k 0, 6, .inl (fun _ => 0))), (a6, .inl (k 0, 6, .inl (fun _ => 0))), (a7, .inl (k 0, 6, .inl (fun _ => 0))), (a8, .inl (k 0, 96, .inl f8)), (b0, .inl (k 0, 16, .inl (fun _ => 0))), (b1, .inl (k 0, 16, .inl (fun _ => 0))), (b2, .inl (k 0, 16, .inl (fun _ => 0))), (b3, .inl (k 0, 16, .inl (fun _ => 0))), (b4, .inl (k 0, 6, .inl (fun _ => 0))), (b5, .inl (k 0, 6, .inl (fun _ => 0))), (b6, .inl (k 0, 6, .inl (fun _ => 0))), (b7, .inl (k 0, 6, .inl (fun _ => 0))), (b8, .inl (k 0, 96, .inl g8))] H := by subst ef_1; exact hP
  have hD : va_D A [(h0, .inr (0, [.ref a0, .ref a1, .ref a2, .ref a3, .ref a4, .ref a5, .ref a6, .ref a7, .ref a8, .int 0, .int 0, .int 0, .int 0, .int 1, .int 0, .int 0, .int 0])), (h1, .inr (0, [.ref b0, .ref b1, .ref b2, .ref b3, .ref b4, .ref b5, .ref b6, .ref b7, .ref b8, .int 0, .int 0, .int 0, .int 0, .int 1, .int 0, .int 0, .int 0])), (a0, .inl (k 0, 16, .inl f_1)), (a1, .inl (k 0, 16, .inl (fun _ => 0))), (a2, .inl (k 0, 16, .inl (fun _ => 0))), (a3, .inl (k 0, 16, .inl (fun _ => 0))), (a4, .inl (k 0, 6, .inl (fun _ => 0))), (a5, .inl (k 0, 6, .inl (fun _ => 0))), (a6, .inl (k 0, 6, .inl (fun _ => 0))), (a7, .inl (k 0, 6, .inl (fun _ => 0))), (a8, .inl (k 0, 96, .inl f8)), (b0, .inl (k 0, 16, .inl (fun _ => 0))), (b1, .inl (k 0, 16, .inl (fun _ => 0))), (b2, .inl (k 0, 16, .inl (fun _ => 0))), (b3, .inl (k 0, 16, .inl (fun _ => 0))), (b4, .inl (k 0, 6, .inl (fun _ => 0))), (b5, .inl (k 0, 6, .inl (fun _ => 0))), (b6, .inl (k 0, 6, .inl (fun _ => 0))), (b7, .inl (k 0, 6, .inl (fun _ => 0))), (b8, .inl (k 0, 96, .inl g8))] := by subst ef_1; exact hD
  refine lv_aload_n hx hb dX1_become_15 rfl (lv_at hl 1 rfl) ?_
  refine va_get (D := D) (ci := 0) (v := .ref b1) (C := RX1) (T := TX1) (N := 17) hx hb hT iw_TX1 hown hK.1 hP 1 rfl rfl 1 (by decide) (hT _ wd_106) (fun _ h9 => h9) rfl dX1_become_16 ?_
  refine lv_iconst (v := 0) hx hb dX1_become_19 (by decide) ?_
  refine lv_aload_n hx hb dX1_become_20 rfl (lv_at hl 0 rfl) ?_
  refine va_get (D := D) (ci := 0) (v := .ref a1) (C := RX1) (T := TX1) (N := 17) hx hb hT iw_TX1 hown hK.1 hP 0 rfl rfl 1 (by decide) (hT _ wd_106) (fun _ h9 => h9) rfl dX1_become_21 ?_
  refine lv_iconst (v := 0) hx hb dX1_become_24 (by decide) ?_
  refine lv_bipush (v := 16) hx hb dX1_become_25 (by decide) ?_
  refine va_copyi (ty := .int) hx hb (hml.trans hl.1.symm) hown (hT _ wd_513) (hT _ wd_356) (hT _ wd_355) (hT _ wd_76) hK.1 hP hD hS 12 3 0 0 rfl rfl rfl rfl rfl (by decide) (by decide) (by decide) (by decide) (by decide) (fun _ _ => rfl) (Nat.le_of_ble_eq_true rfl) (by decide +kernel) dX1_become_27 (fun H locs hP hD hS => ?_)
  obtain ⟨f_2, ef_2⟩ : ∃ f9, f9 = va_cpy ((fun _ => 0) : Nat → Int32) ((fun _ => 0) : Nat → Int32) (0 : Int32).toNatClampNeg (0 : Int32).toNatClampNeg (16 : Int32).toNatClampNeg := ⟨_, rfl⟩
  have hP : va_P D gx_cl [(h0, .inr (0, [.ref a0, .ref a1, .ref a2, .ref a3, .ref a4, .ref a5, .ref a6, .ref a7, .ref a8, .int 0, .int 0, .int 0, .int 0, .int 1, .int 0, .int 0, .int 0])), (h1, .inr (0, [.ref b0, .ref b1, .ref b2, .ref b3, .ref b4, .ref b5, .ref b6, .ref b7, .ref b8, .int 0, .int 0, .int 0, .int 0, .int 1, .int 0, .int 0, .int 0])), (a0, .inl (k 0, 16, .inl f_1)), (a1, .inl (k 0, 16, .inl f_2)), (a2, .inl (k 0, 16, .inl (fun _ => 0))), (a3, .inl (k 0, 16, .inl (fun _ => 0))), (a4, .inl (k 0, 6, .inl (fun _ => 0))), (a5, .inl (k 0, 6, .inl (fun _ => 0))), (a6, .inl (k 0, 6, .inl (fun _ => 0))), (a7, .inl (k 0, 6, .inl (fun _ => 0))), (a8, .inl (k 0, 96, .inl f8)), (b0, .inl (k 0, 16, .inl (fun _ => 0))), (b1, .inl (k 0, 16, .inl (fun _ => 0))), (b2, .inl (k 0, 16, .inl (fun _ => 0))), (b3, .inl (k 0, 16, .inl (fun _ => 0))), (b4, .inl (k 0, 6, .inl (fun _ => 0))), (b5, .inl (k 0, 6, .inl (fun _ => 0))), (b6, .inl (k 0, 6, .inl (fun _ => 0))), (b7, .inl (k 0, 6, .inl (fun _ => 0))), (b8, .inl (k 0, 96, .inl g8))] H := by subst ef_2; exact hP
  have hD : va_D A [(h0, .inr (0, [.ref a0, .ref a1, .ref a2, .ref a3, .ref a4, .ref a5, .ref a6, .ref a7, .ref a8, .int 0, .int 0, .int 0, .int 0, .int 1, .int 0, .int 0, .int 0])), (h1, .inr (0, [.ref b0, .ref b1, .ref b2, .ref b3, .ref b4, .ref b5, .ref b6, .ref b7, .ref b8, .int 0, .int 0, .int 0, .int 0, .int 1, .int 0, .int 0, .int 0])), (a0, .inl (k 0, 16, .inl f_1)), (a1, .inl (k 0, 16, .inl f_2)), (a2, .inl (k 0, 16, .inl (fun _ => 0))), (a3, .inl (k 0, 16, .inl (fun _ => 0))), (a4, .inl (k 0, 6, .inl (fun _ => 0))), (a5, .inl (k 0, 6, .inl (fun _ => 0))), (a6, .inl (k 0, 6, .inl (fun _ => 0))), (a7, .inl (k 0, 6, .inl (fun _ => 0))), (a8, .inl (k 0, 96, .inl f8)), (b0, .inl (k 0, 16, .inl (fun _ => 0))), (b1, .inl (k 0, 16, .inl (fun _ => 0))), (b2, .inl (k 0, 16, .inl (fun _ => 0))), (b3, .inl (k 0, 16, .inl (fun _ => 0))), (b4, .inl (k 0, 6, .inl (fun _ => 0))), (b5, .inl (k 0, 6, .inl (fun _ => 0))), (b6, .inl (k 0, 6, .inl (fun _ => 0))), (b7, .inl (k 0, 6, .inl (fun _ => 0))), (b8, .inl (k 0, 96, .inl g8))] := by subst ef_2; exact hD
  refine lv_aload_n hx hb dX1_become_30 rfl (lv_at hl 1 rfl) ?_
  refine va_get (D := D) (ci := 0) (v := .ref b2) (C := RX1) (T := TX1) (N := 17) hx hb hT iw_TX1 hown hK.1 hP 1 rfl rfl 2 (by decide) (hT _ wd_110) (fun _ h9 => h9) rfl dX1_become_31 ?_
  refine lv_iconst (v := 0) hx hb dX1_become_34 (by decide) ?_
  refine lv_aload_n hx hb dX1_become_35 rfl (lv_at hl 0 rfl) ?_
  refine va_get (D := D) (ci := 0) (v := .ref a2) (C := RX1) (T := TX1) (N := 17) hx hb hT iw_TX1 hown hK.1 hP 0 rfl rfl 2 (by decide) (hT _ wd_110) (fun _ h9 => h9) rfl dX1_become_36 ?_
  refine lv_iconst (v := 0) hx hb dX1_become_39 (by decide) ?_
  refine lv_bipush (v := 16) hx hb dX1_become_40 (by decide) ?_
  refine va_copyi (ty := .int) hx hb (hml.trans hl.1.symm) hown (hT _ wd_513) (hT _ wd_356) (hT _ wd_355) (hT _ wd_76) hK.1 hP hD hS 13 4 0 0 rfl rfl rfl rfl rfl (by decide) (by decide) (by decide) (by decide) (by decide) (fun _ _ => rfl) (Nat.le_of_ble_eq_true rfl) (by decide +kernel) dX1_become_42 (fun H locs hP hD hS => ?_)
  obtain ⟨f_3, ef_3⟩ : ∃ f9, f9 = va_cpy ((fun _ => 0) : Nat → Int32) ((fun _ => 0) : Nat → Int32) (0 : Int32).toNatClampNeg (0 : Int32).toNatClampNeg (16 : Int32).toNatClampNeg := ⟨_, rfl⟩
  have hP : va_P D gx_cl [(h0, .inr (0, [.ref a0, .ref a1, .ref a2, .ref a3, .ref a4, .ref a5, .ref a6, .ref a7, .ref a8, .int 0, .int 0, .int 0, .int 0, .int 1, .int 0, .int 0, .int 0])), (h1, .inr (0, [.ref b0, .ref b1, .ref b2, .ref b3, .ref b4, .ref b5, .ref b6, .ref b7, .ref b8, .int 0, .int 0, .int 0, .int 0, .int 1, .int 0, .int 0, .int 0])), (a0, .inl (k 0, 16, .inl f_1)), (a1, .inl (k 0, 16, .inl f_2)), (a2, .inl (k 0, 16, .inl f_3)), (a3, .inl (k 0, 16, .inl (fun _ => 0))), (a4, .inl (k 0, 6, .inl (fun _ => 0))), (a5, .inl (k 0, 6, .inl (fun _ => 0))), (a6, .inl (k 0, 6, .inl (fun _ => 0))), (a7, .inl (k 0, 6, .inl (fun _ => 0))), (a8, .inl (k 0, 96, .inl f8)), (b0, .inl (k 0, 16, .inl (fun _ => 0))), (b1, .inl (k 0, 16, .inl (fun _ => 0))), (b2, .inl (k 0, 16, .inl (fun _ => 0))), (b3, .inl (k 0, 16, .inl (fun _ => 0))), (b4, .inl (k 0, 6, .inl (fun _ => 0))), (b5, .inl (k 0, 6, .inl (fun _ => 0))), (b6, .inl (k 0, 6, .inl (fun _ => 0))), (b7, .inl (k 0, 6, .inl (fun _ => 0))), (b8, .inl (k 0, 96, .inl g8))] H := by subst ef_3; exact hP
  have hD : va_D A [(h0, .inr (0, [.ref a0, .ref a1, .ref a2, .ref a3, .ref a4, .ref a5, .ref a6, .ref a7, .ref a8, .int 0, .int 0, .int 0, .int 0, .int 1, .int 0, .int 0, .int 0])), (h1, .inr (0, [.ref b0, .ref b1, .ref b2, .ref b3, .ref b4, .ref b5, .ref b6, .ref b7, .ref b8, .int 0, .int 0, .int 0, .int 0, .int 1, .int 0, .int 0, .int 0])), (a0, .inl (k 0, 16, .inl f_1)), (a1, .inl (k 0, 16, .inl f_2)), (a2, .inl (k 0, 16, .inl f_3)), (a3, .inl (k 0, 16, .inl (fun _ => 0))), (a4, .inl (k 0, 6, .inl (fun _ => 0))), (a5, .inl (k 0, 6, .inl (fun _ => 0))), (a6, .inl (k 0, 6, .inl (fun _ => 0))), (a7, .inl (k 0, 6, .inl (fun _ => 0))), (a8, .inl (k 0, 96, .inl f8)), (b0, .inl (k 0, 16, .inl (fun _ => 0))), (b1, .inl (k 0, 16, .inl (fun _ => 0))), (b2, .inl (k 0, 16, .inl (fun _ => 0))), (b3, .inl (k 0, 16, .inl (fun _ => 0))), (b4, .inl (k 0, 6, .inl (fun _ => 0))), (b5, .inl (k 0, 6, .inl (fun _ => 0))), (b6, .inl (k 0, 6, .inl (fun _ => 0))), (b7, .inl (k 0, 6, .inl (fun _ => 0))), (b8, .inl (k 0, 96, .inl g8))] := by subst ef_3; exact hD
  refine lv_aload_n hx hb dX1_become_45 rfl (lv_at hl 1 rfl) ?_
  refine va_get (D := D) (ci := 0) (v := .ref b3) (C := RX1) (T := TX1) (N := 17) hx hb hT iw_TX1 hown hK.1 hP 1 rfl rfl 3 (by decide) (hT _ wd_113) (fun _ h9 => h9) rfl dX1_become_46 ?_
  refine lv_iconst (v := 0) hx hb dX1_become_49 (by decide) ?_
  refine lv_aload_n hx hb dX1_become_50 rfl (lv_at hl 0 rfl) ?_
  refine va_get (D := D) (ci := 0) (v := .ref a3) (C := RX1) (T := TX1) (N := 17) hx hb hT iw_TX1 hown hK.1 hP 0 rfl rfl 3 (by decide) (hT _ wd_113) (fun _ h9 => h9) rfl dX1_become_51 ?_
  refine lv_iconst (v := 0) hx hb dX1_become_54 (by decide) ?_
  refine lv_bipush (v := 16) hx hb dX1_become_55 (by decide) ?_
  refine va_copyi (ty := .int) hx hb (hml.trans hl.1.symm) hown (hT _ wd_513) (hT _ wd_356) (hT _ wd_355) (hT _ wd_76) hK.1 hP hD hS 14 5 0 0 rfl rfl rfl rfl rfl (by decide) (by decide) (by decide) (by decide) (by decide) (fun _ _ => rfl) (Nat.le_of_ble_eq_true rfl) (by decide +kernel) dX1_become_57 (fun H locs hP hD hS => ?_)
  obtain ⟨f_4, ef_4⟩ : ∃ f9, f9 = va_cpy ((fun _ => 0) : Nat → Int32) ((fun _ => 0) : Nat → Int32) (0 : Int32).toNatClampNeg (0 : Int32).toNatClampNeg (16 : Int32).toNatClampNeg := ⟨_, rfl⟩
  have hP : va_P D gx_cl [(h0, .inr (0, [.ref a0, .ref a1, .ref a2, .ref a3, .ref a4, .ref a5, .ref a6, .ref a7, .ref a8, .int 0, .int 0, .int 0, .int 0, .int 1, .int 0, .int 0, .int 0])), (h1, .inr (0, [.ref b0, .ref b1, .ref b2, .ref b3, .ref b4, .ref b5, .ref b6, .ref b7, .ref b8, .int 0, .int 0, .int 0, .int 0, .int 1, .int 0, .int 0, .int 0])), (a0, .inl (k 0, 16, .inl f_1)), (a1, .inl (k 0, 16, .inl f_2)), (a2, .inl (k 0, 16, .inl f_3)), (a3, .inl (k 0, 16, .inl f_4)), (a4, .inl (k 0, 6, .inl (fun _ => 0))), (a5, .inl (k 0, 6, .inl (fun _ => 0))), (a6, .inl (k 0, 6, .inl (fun _ => 0))), (a7, .inl (k 0, 6, .inl (fun _ => 0))), (a8, .inl (k 0, 96, .inl f8)), (b0, .inl (k 0, 16, .inl (fun _ => 0))), (b1, .inl (k 0, 16, .inl (fun _ => 0))), (b2, .inl (k 0, 16, .inl (fun _ => 0))), (b3, .inl (k 0, 16, .inl (fun _ => 0))), (b4, .inl (k 0, 6, .inl (fun _ => 0))), (b5, .inl (k 0, 6, .inl (fun _ => 0))), (b6, .inl (k 0, 6, .inl (fun _ => 0))), (b7, .inl (k 0, 6, .inl (fun _ => 0))), (b8, .inl (k 0, 96, .inl g8))] H := by subst ef_4; exact hP
  have hD : va_D A [(h0, .inr (0, [.ref a0, .ref a1, .ref a2, .ref a3, .ref a4, .ref a5, .ref a6, .ref a7, .ref a8, .int 0, .int 0, .int 0, .int 0, .int 1, .int 0, .int 0, .int 0])), (h1, .inr (0, [.ref b0, .ref b1, .ref b2, .ref b3, .ref b4, .ref b5, .ref b6, .ref b7, .ref b8, .int 0, .int 0, .int 0, .int 0, .int 1, .int 0, .int 0, .int 0])), (a0, .inl (k 0, 16, .inl f_1)), (a1, .inl (k 0, 16, .inl f_2)), (a2, .inl (k 0, 16, .inl f_3)), (a3, .inl (k 0, 16, .inl f_4)), (a4, .inl (k 0, 6, .inl (fun _ => 0))), (a5, .inl (k 0, 6, .inl (fun _ => 0))), (a6, .inl (k 0, 6, .inl (fun _ => 0))), (a7, .inl (k 0, 6, .inl (fun _ => 0))), (a8, .inl (k 0, 96, .inl f8)), (b0, .inl (k 0, 16, .inl (fun _ => 0))), (b1, .inl (k 0, 16, .inl (fun _ => 0))), (b2, .inl (k 0, 16, .inl (fun _ => 0))), (b3, .inl (k 0, 16, .inl (fun _ => 0))), (b4, .inl (k 0, 6, .inl (fun _ => 0))), (b5, .inl (k 0, 6, .inl (fun _ => 0))), (b6, .inl (k 0, 6, .inl (fun _ => 0))), (b7, .inl (k 0, 6, .inl (fun _ => 0))), (b8, .inl (k 0, 96, .inl g8))] := by subst ef_4; exact hD
  refine lv_aload_n hx hb dX1_become_60 rfl (lv_at hl 1 rfl) ?_
  refine va_get (D := D) (ci := 0) (v := .ref b4) (C := RX1) (T := TX1) (N := 17) hx hb hT iw_TX1 hown hK.1 hP 1 rfl rfl 4 (by decide) (hT _ wd_118) (fun _ h9 => h9) rfl dX1_become_61 ?_
  refine lv_iconst (v := 0) hx hb dX1_become_64 (by decide) ?_
  refine lv_aload_n hx hb dX1_become_65 rfl (lv_at hl 0 rfl) ?_
  refine va_get (D := D) (ci := 0) (v := .ref a4) (C := RX1) (T := TX1) (N := 17) hx hb hT iw_TX1 hown hK.1 hP 0 rfl rfl 4 (by decide) (hT _ wd_118) (fun _ h9 => h9) rfl dX1_become_66 ?_
  refine lv_iconst (v := 0) hx hb dX1_become_69 (by decide) ?_
  refine lv_bipush (v := 6) hx hb dX1_become_70 (by decide) ?_
  refine va_copyi (ty := .int) hx hb (hml.trans hl.1.symm) hown (hT _ wd_513) (hT _ wd_356) (hT _ wd_355) (hT _ wd_76) hK.1 hP hD hS 15 6 0 0 rfl rfl rfl rfl rfl (by decide) (by decide) (by decide) (by decide) (by decide) (fun _ _ => rfl) (Nat.le_of_ble_eq_true rfl) (by decide +kernel) dX1_become_72 (fun H locs hP hD hS => ?_)
  obtain ⟨f_5, ef_5⟩ : ∃ f9, f9 = va_cpy ((fun _ => 0) : Nat → Int32) ((fun _ => 0) : Nat → Int32) (0 : Int32).toNatClampNeg (0 : Int32).toNatClampNeg (6 : Int32).toNatClampNeg := ⟨_, rfl⟩
  have hP : va_P D gx_cl [(h0, .inr (0, [.ref a0, .ref a1, .ref a2, .ref a3, .ref a4, .ref a5, .ref a6, .ref a7, .ref a8, .int 0, .int 0, .int 0, .int 0, .int 1, .int 0, .int 0, .int 0])), (h1, .inr (0, [.ref b0, .ref b1, .ref b2, .ref b3, .ref b4, .ref b5, .ref b6, .ref b7, .ref b8, .int 0, .int 0, .int 0, .int 0, .int 1, .int 0, .int 0, .int 0])), (a0, .inl (k 0, 16, .inl f_1)), (a1, .inl (k 0, 16, .inl f_2)), (a2, .inl (k 0, 16, .inl f_3)), (a3, .inl (k 0, 16, .inl f_4)), (a4, .inl (k 0, 6, .inl f_5)), (a5, .inl (k 0, 6, .inl (fun _ => 0))), (a6, .inl (k 0, 6, .inl (fun _ => 0))), (a7, .inl (k 0, 6, .inl (fun _ => 0))), (a8, .inl (k 0, 96, .inl f8)), (b0, .inl (k 0, 16, .inl (fun _ => 0))), (b1, .inl (k 0, 16, .inl (fun _ => 0))), (b2, .inl (k 0, 16, .inl (fun _ => 0))), (b3, .inl (k 0, 16, .inl (fun _ => 0))), (b4, .inl (k 0, 6, .inl (fun _ => 0))), (b5, .inl (k 0, 6, .inl (fun _ => 0))), (b6, .inl (k 0, 6, .inl (fun _ => 0))), (b7, .inl (k 0, 6, .inl (fun _ => 0))), (b8, .inl (k 0, 96, .inl g8))] H := by subst ef_5; exact hP
  have hD : va_D A [(h0, .inr (0, [.ref a0, .ref a1, .ref a2, .ref a3, .ref a4, .ref a5, .ref a6, .ref a7, .ref a8, .int 0, .int 0, .int 0, .int 0, .int 1, .int 0, .int 0, .int 0])), (h1, .inr (0, [.ref b0, .ref b1, .ref b2, .ref b3, .ref b4, .ref b5, .ref b6, .ref b7, .ref b8, .int 0, .int 0, .int 0, .int 0, .int 1, .int 0, .int 0, .int 0])), (a0, .inl (k 0, 16, .inl f_1)), (a1, .inl (k 0, 16, .inl f_2)), (a2, .inl (k 0, 16, .inl f_3)), (a3, .inl (k 0, 16, .inl f_4)), (a4, .inl (k 0, 6, .inl f_5)), (a5, .inl (k 0, 6, .inl (fun _ => 0))), (a6, .inl (k 0, 6, .inl (fun _ => 0))), (a7, .inl (k 0, 6, .inl (fun _ => 0))), (a8, .inl (k 0, 96, .inl f8)), (b0, .inl (k 0, 16, .inl (fun _ => 0))), (b1, .inl (k 0, 16, .inl (fun _ => 0))), (b2, .inl (k 0, 16, .inl (fun _ => 0))), (b3, .inl (k 0, 16, .inl (fun _ => 0))), (b4, .inl (k 0, 6, .inl (fun _ => 0))), (b5, .inl (k 0, 6, .inl (fun _ => 0))), (b6, .inl (k 0, 6, .inl (fun _ => 0))), (b7, .inl (k 0, 6, .inl (fun _ => 0))), (b8, .inl (k 0, 96, .inl g8))] := by subst ef_5; exact hD
  refine lv_aload_n hx hb dX1_become_75 rfl (lv_at hl 1 rfl) ?_
  refine va_get (D := D) (ci := 0) (v := .ref b5) (C := RX1) (T := TX1) (N := 17) hx hb hT iw_TX1 hown hK.1 hP 1 rfl rfl 5 (by decide) (hT _ wd_121) (fun _ h9 => h9) rfl dX1_become_76 ?_
  refine lv_iconst (v := 0) hx hb dX1_become_79 (by decide) ?_
  refine lv_aload_n hx hb dX1_become_80 rfl (lv_at hl 0 rfl) ?_
  refine va_get (D := D) (ci := 0) (v := .ref a5) (C := RX1) (T := TX1) (N := 17) hx hb hT iw_TX1 hown hK.1 hP 0 rfl rfl 5 (by decide) (hT _ wd_121) (fun _ h9 => h9) rfl dX1_become_81 ?_
  refine lv_iconst (v := 0) hx hb dX1_become_84 (by decide) ?_
  refine lv_bipush (v := 6) hx hb dX1_become_85 (by decide) ?_
  refine va_copyi (ty := .int) hx hb (hml.trans hl.1.symm) hown (hT _ wd_513) (hT _ wd_356) (hT _ wd_355) (hT _ wd_76) hK.1 hP hD hS 16 7 0 0 rfl rfl rfl rfl rfl (by decide) (by decide) (by decide) (by decide) (by decide) (fun _ _ => rfl) (Nat.le_of_ble_eq_true rfl) (by decide +kernel) dX1_become_87 (fun H locs hP hD hS => ?_)
  obtain ⟨f_6, ef_6⟩ : ∃ f9, f9 = va_cpy ((fun _ => 0) : Nat → Int32) ((fun _ => 0) : Nat → Int32) (0 : Int32).toNatClampNeg (0 : Int32).toNatClampNeg (6 : Int32).toNatClampNeg := ⟨_, rfl⟩
  have hP : va_P D gx_cl [(h0, .inr (0, [.ref a0, .ref a1, .ref a2, .ref a3, .ref a4, .ref a5, .ref a6, .ref a7, .ref a8, .int 0, .int 0, .int 0, .int 0, .int 1, .int 0, .int 0, .int 0])), (h1, .inr (0, [.ref b0, .ref b1, .ref b2, .ref b3, .ref b4, .ref b5, .ref b6, .ref b7, .ref b8, .int 0, .int 0, .int 0, .int 0, .int 1, .int 0, .int 0, .int 0])), (a0, .inl (k 0, 16, .inl f_1)), (a1, .inl (k 0, 16, .inl f_2)), (a2, .inl (k 0, 16, .inl f_3)), (a3, .inl (k 0, 16, .inl f_4)), (a4, .inl (k 0, 6, .inl f_5)), (a5, .inl (k 0, 6, .inl f_6)), (a6, .inl (k 0, 6, .inl (fun _ => 0))), (a7, .inl (k 0, 6, .inl (fun _ => 0))), (a8, .inl (k 0, 96, .inl f8)), (b0, .inl (k 0, 16, .inl (fun _ => 0))), (b1, .inl (k 0, 16, .inl (fun _ => 0))), (b2, .inl (k 0, 16, .inl (fun _ => 0))), (b3, .inl (k 0, 16, .inl (fun _ => 0))), (b4, .inl (k 0, 6, .inl (fun _ => 0))), (b5, .inl (k 0, 6, .inl (fun _ => 0))), (b6, .inl (k 0, 6, .inl (fun _ => 0))), (b7, .inl (k 0, 6, .inl (fun _ => 0))), (b8, .inl (k 0, 96, .inl g8))] H := by subst ef_6; exact hP
  have hD : va_D A [(h0, .inr (0, [.ref a0, .ref a1, .ref a2, .ref a3, .ref a4, .ref a5, .ref a6, .ref a7, .ref a8, .int 0, .int 0, .int 0, .int 0, .int 1, .int 0, .int 0, .int 0])), (h1, .inr (0, [.ref b0, .ref b1, .ref b2, .ref b3, .ref b4, .ref b5, .ref b6, .ref b7, .ref b8, .int 0, .int 0, .int 0, .int 0, .int 1, .int 0, .int 0, .int 0])), (a0, .inl (k 0, 16, .inl f_1)), (a1, .inl (k 0, 16, .inl f_2)), (a2, .inl (k 0, 16, .inl f_3)), (a3, .inl (k 0, 16, .inl f_4)), (a4, .inl (k 0, 6, .inl f_5)), (a5, .inl (k 0, 6, .inl f_6)), (a6, .inl (k 0, 6, .inl (fun _ => 0))), (a7, .inl (k 0, 6, .inl (fun _ => 0))), (a8, .inl (k 0, 96, .inl f8)), (b0, .inl (k 0, 16, .inl (fun _ => 0))), (b1, .inl (k 0, 16, .inl (fun _ => 0))), (b2, .inl (k 0, 16, .inl (fun _ => 0))), (b3, .inl (k 0, 16, .inl (fun _ => 0))), (b4, .inl (k 0, 6, .inl (fun _ => 0))), (b5, .inl (k 0, 6, .inl (fun _ => 0))), (b6, .inl (k 0, 6, .inl (fun _ => 0))), (b7, .inl (k 0, 6, .inl (fun _ => 0))), (b8, .inl (k 0, 96, .inl g8))] := by subst ef_6; exact hD
  refine lv_aload_n hx hb dX1_become_90 rfl (lv_at hl 1 rfl) ?_
  refine va_get (D := D) (ci := 0) (v := .ref b6) (C := RX1) (T := TX1) (N := 17) hx hb hT iw_TX1 hown hK.1 hP 1 rfl rfl 6 (by decide) (hT _ wd_124) (fun _ h9 => h9) rfl dX1_become_91 ?_
  refine lv_iconst (v := 0) hx hb dX1_become_94 (by decide) ?_
  refine lv_aload_n hx hb dX1_become_95 rfl (lv_at hl 0 rfl) ?_
  refine va_get (D := D) (ci := 0) (v := .ref a6) (C := RX1) (T := TX1) (N := 17) hx hb hT iw_TX1 hown hK.1 hP 0 rfl rfl 6 (by decide) (hT _ wd_124) (fun _ h9 => h9) rfl dX1_become_96 ?_
  refine lv_iconst (v := 0) hx hb dX1_become_99 (by decide) ?_
  refine lv_bipush (v := 6) hx hb dX1_become_100 (by decide) ?_
  refine va_copyi (ty := .int) hx hb (hml.trans hl.1.symm) hown (hT _ wd_513) (hT _ wd_356) (hT _ wd_355) (hT _ wd_76) hK.1 hP hD hS 17 8 0 0 rfl rfl rfl rfl rfl (by decide) (by decide) (by decide) (by decide) (by decide) (fun _ _ => rfl) (Nat.le_of_ble_eq_true rfl) (by decide +kernel) dX1_become_102 (fun H locs hP hD hS => ?_)
  obtain ⟨f_7, ef_7⟩ : ∃ f9, f9 = va_cpy ((fun _ => 0) : Nat → Int32) ((fun _ => 0) : Nat → Int32) (0 : Int32).toNatClampNeg (0 : Int32).toNatClampNeg (6 : Int32).toNatClampNeg := ⟨_, rfl⟩
  have hP : va_P D gx_cl [(h0, .inr (0, [.ref a0, .ref a1, .ref a2, .ref a3, .ref a4, .ref a5, .ref a6, .ref a7, .ref a8, .int 0, .int 0, .int 0, .int 0, .int 1, .int 0, .int 0, .int 0])), (h1, .inr (0, [.ref b0, .ref b1, .ref b2, .ref b3, .ref b4, .ref b5, .ref b6, .ref b7, .ref b8, .int 0, .int 0, .int 0, .int 0, .int 1, .int 0, .int 0, .int 0])), (a0, .inl (k 0, 16, .inl f_1)), (a1, .inl (k 0, 16, .inl f_2)), (a2, .inl (k 0, 16, .inl f_3)), (a3, .inl (k 0, 16, .inl f_4)), (a4, .inl (k 0, 6, .inl f_5)), (a5, .inl (k 0, 6, .inl f_6)), (a6, .inl (k 0, 6, .inl f_7)), (a7, .inl (k 0, 6, .inl (fun _ => 0))), (a8, .inl (k 0, 96, .inl f8)), (b0, .inl (k 0, 16, .inl (fun _ => 0))), (b1, .inl (k 0, 16, .inl (fun _ => 0))), (b2, .inl (k 0, 16, .inl (fun _ => 0))), (b3, .inl (k 0, 16, .inl (fun _ => 0))), (b4, .inl (k 0, 6, .inl (fun _ => 0))), (b5, .inl (k 0, 6, .inl (fun _ => 0))), (b6, .inl (k 0, 6, .inl (fun _ => 0))), (b7, .inl (k 0, 6, .inl (fun _ => 0))), (b8, .inl (k 0, 96, .inl g8))] H := by subst ef_7; exact hP
  have hD : va_D A [(h0, .inr (0, [.ref a0, .ref a1, .ref a2, .ref a3, .ref a4, .ref a5, .ref a6, .ref a7, .ref a8, .int 0, .int 0, .int 0, .int 0, .int 1, .int 0, .int 0, .int 0])), (h1, .inr (0, [.ref b0, .ref b1, .ref b2, .ref b3, .ref b4, .ref b5, .ref b6, .ref b7, .ref b8, .int 0, .int 0, .int 0, .int 0, .int 1, .int 0, .int 0, .int 0])), (a0, .inl (k 0, 16, .inl f_1)), (a1, .inl (k 0, 16, .inl f_2)), (a2, .inl (k 0, 16, .inl f_3)), (a3, .inl (k 0, 16, .inl f_4)), (a4, .inl (k 0, 6, .inl f_5)), (a5, .inl (k 0, 6, .inl f_6)), (a6, .inl (k 0, 6, .inl f_7)), (a7, .inl (k 0, 6, .inl (fun _ => 0))), (a8, .inl (k 0, 96, .inl f8)), (b0, .inl (k 0, 16, .inl (fun _ => 0))), (b1, .inl (k 0, 16, .inl (fun _ => 0))), (b2, .inl (k 0, 16, .inl (fun _ => 0))), (b3, .inl (k 0, 16, .inl (fun _ => 0))), (b4, .inl (k 0, 6, .inl (fun _ => 0))), (b5, .inl (k 0, 6, .inl (fun _ => 0))), (b6, .inl (k 0, 6, .inl (fun _ => 0))), (b7, .inl (k 0, 6, .inl (fun _ => 0))), (b8, .inl (k 0, 96, .inl g8))] := by subst ef_7; exact hD
  refine lv_aload_n hx hb dX1_become_105 rfl (lv_at hl 1 rfl) ?_
  refine va_get (D := D) (ci := 0) (v := .ref b7) (C := RX1) (T := TX1) (N := 17) hx hb hT iw_TX1 hown hK.1 hP 1 rfl rfl 7 (by decide) (hT _ wd_127) (fun _ h9 => h9) rfl dX1_become_106 ?_
  refine lv_iconst (v := 0) hx hb dX1_become_109 (by decide) ?_
  refine lv_aload_n hx hb dX1_become_110 rfl (lv_at hl 0 rfl) ?_
  refine va_get (D := D) (ci := 0) (v := .ref a7) (C := RX1) (T := TX1) (N := 17) hx hb hT iw_TX1 hown hK.1 hP 0 rfl rfl 7 (by decide) (hT _ wd_127) (fun _ h9 => h9) rfl dX1_become_111 ?_
  refine lv_iconst (v := 0) hx hb dX1_become_114 (by decide) ?_
  refine lv_bipush (v := 6) hx hb dX1_become_115 (by decide) ?_
  refine va_copyi (ty := .int) hx hb (hml.trans hl.1.symm) hown (hT _ wd_513) (hT _ wd_356) (hT _ wd_355) (hT _ wd_76) hK.1 hP hD hS 18 9 0 0 rfl rfl rfl rfl rfl (by decide) (by decide) (by decide) (by decide) (by decide) (fun _ _ => rfl) (Nat.le_of_ble_eq_true rfl) (by decide +kernel) dX1_become_117 (fun H locs hP hD hS => ?_)
  obtain ⟨f_8, ef_8⟩ : ∃ f9, f9 = va_cpy ((fun _ => 0) : Nat → Int32) ((fun _ => 0) : Nat → Int32) (0 : Int32).toNatClampNeg (0 : Int32).toNatClampNeg (6 : Int32).toNatClampNeg := ⟨_, rfl⟩
  have hP : va_P D gx_cl [(h0, .inr (0, [.ref a0, .ref a1, .ref a2, .ref a3, .ref a4, .ref a5, .ref a6, .ref a7, .ref a8, .int 0, .int 0, .int 0, .int 0, .int 1, .int 0, .int 0, .int 0])), (h1, .inr (0, [.ref b0, .ref b1, .ref b2, .ref b3, .ref b4, .ref b5, .ref b6, .ref b7, .ref b8, .int 0, .int 0, .int 0, .int 0, .int 1, .int 0, .int 0, .int 0])), (a0, .inl (k 0, 16, .inl f_1)), (a1, .inl (k 0, 16, .inl f_2)), (a2, .inl (k 0, 16, .inl f_3)), (a3, .inl (k 0, 16, .inl f_4)), (a4, .inl (k 0, 6, .inl f_5)), (a5, .inl (k 0, 6, .inl f_6)), (a6, .inl (k 0, 6, .inl f_7)), (a7, .inl (k 0, 6, .inl f_8)), (a8, .inl (k 0, 96, .inl f8)), (b0, .inl (k 0, 16, .inl (fun _ => 0))), (b1, .inl (k 0, 16, .inl (fun _ => 0))), (b2, .inl (k 0, 16, .inl (fun _ => 0))), (b3, .inl (k 0, 16, .inl (fun _ => 0))), (b4, .inl (k 0, 6, .inl (fun _ => 0))), (b5, .inl (k 0, 6, .inl (fun _ => 0))), (b6, .inl (k 0, 6, .inl (fun _ => 0))), (b7, .inl (k 0, 6, .inl (fun _ => 0))), (b8, .inl (k 0, 96, .inl g8))] H := by subst ef_8; exact hP
  have hD : va_D A [(h0, .inr (0, [.ref a0, .ref a1, .ref a2, .ref a3, .ref a4, .ref a5, .ref a6, .ref a7, .ref a8, .int 0, .int 0, .int 0, .int 0, .int 1, .int 0, .int 0, .int 0])), (h1, .inr (0, [.ref b0, .ref b1, .ref b2, .ref b3, .ref b4, .ref b5, .ref b6, .ref b7, .ref b8, .int 0, .int 0, .int 0, .int 0, .int 1, .int 0, .int 0, .int 0])), (a0, .inl (k 0, 16, .inl f_1)), (a1, .inl (k 0, 16, .inl f_2)), (a2, .inl (k 0, 16, .inl f_3)), (a3, .inl (k 0, 16, .inl f_4)), (a4, .inl (k 0, 6, .inl f_5)), (a5, .inl (k 0, 6, .inl f_6)), (a6, .inl (k 0, 6, .inl f_7)), (a7, .inl (k 0, 6, .inl f_8)), (a8, .inl (k 0, 96, .inl f8)), (b0, .inl (k 0, 16, .inl (fun _ => 0))), (b1, .inl (k 0, 16, .inl (fun _ => 0))), (b2, .inl (k 0, 16, .inl (fun _ => 0))), (b3, .inl (k 0, 16, .inl (fun _ => 0))), (b4, .inl (k 0, 6, .inl (fun _ => 0))), (b5, .inl (k 0, 6, .inl (fun _ => 0))), (b6, .inl (k 0, 6, .inl (fun _ => 0))), (b7, .inl (k 0, 6, .inl (fun _ => 0))), (b8, .inl (k 0, 96, .inl g8))] := by subst ef_8; exact hD
  refine lv_aload_n hx hb dX1_become_120 rfl (lv_at hl 1 rfl) ?_
  refine va_get (D := D) (ci := 0) (v := .ref b8) (C := RX1) (T := TX1) (N := 17) hx hb hT iw_TX1 hown hK.1 hP 1 rfl rfl 8 (by decide) (hT _ wd_129) (fun _ h9 => h9) rfl dX1_become_121 ?_
  refine lv_iconst (v := 0) hx hb dX1_become_124 (by decide) ?_
  refine lv_aload_n hx hb dX1_become_125 rfl (lv_at hl 0 rfl) ?_
  refine va_get (D := D) (ci := 0) (v := .ref a8) (C := RX1) (T := TX1) (N := 17) hx hb hT iw_TX1 hown hK.1 hP 0 rfl rfl 8 (by decide) (hT _ wd_129) (fun _ h9 => h9) rfl dX1_become_126 ?_
  refine lv_iconst (v := 0) hx hb dX1_become_129 (by decide) ?_
  refine lv_bipush (v := 96) hx hb dX1_become_130 (by decide) ?_
  refine va_copyi (ty := .int) hx hb (hml.trans hl.1.symm) hown (hT _ wd_513) (hT _ wd_356) (hT _ wd_355) (hT _ wd_76) hK.1 hP hD hS 19 10 0 0 rfl rfl rfl rfl rfl (by decide) (by decide) (by decide) (by decide) (by decide) (fun _ _ => rfl) (Nat.le_of_ble_eq_true rfl) (by decide +kernel) dX1_become_132 (fun H locs hP hD hS => ?_)
  obtain ⟨f_9, ef_9⟩ : ∃ f9, f9 = va_cpy (g8 : Nat → Int32) (f8 : Nat → Int32) (0 : Int32).toNatClampNeg (0 : Int32).toNatClampNeg (96 : Int32).toNatClampNeg := ⟨_, rfl⟩
  have hP : va_P D gx_cl [(h0, .inr (0, [.ref a0, .ref a1, .ref a2, .ref a3, .ref a4, .ref a5, .ref a6, .ref a7, .ref a8, .int 0, .int 0, .int 0, .int 0, .int 1, .int 0, .int 0, .int 0])), (h1, .inr (0, [.ref b0, .ref b1, .ref b2, .ref b3, .ref b4, .ref b5, .ref b6, .ref b7, .ref b8, .int 0, .int 0, .int 0, .int 0, .int 1, .int 0, .int 0, .int 0])), (a0, .inl (k 0, 16, .inl f_1)), (a1, .inl (k 0, 16, .inl f_2)), (a2, .inl (k 0, 16, .inl f_3)), (a3, .inl (k 0, 16, .inl f_4)), (a4, .inl (k 0, 6, .inl f_5)), (a5, .inl (k 0, 6, .inl f_6)), (a6, .inl (k 0, 6, .inl f_7)), (a7, .inl (k 0, 6, .inl f_8)), (a8, .inl (k 0, 96, .inl f_9)), (b0, .inl (k 0, 16, .inl (fun _ => 0))), (b1, .inl (k 0, 16, .inl (fun _ => 0))), (b2, .inl (k 0, 16, .inl (fun _ => 0))), (b3, .inl (k 0, 16, .inl (fun _ => 0))), (b4, .inl (k 0, 6, .inl (fun _ => 0))), (b5, .inl (k 0, 6, .inl (fun _ => 0))), (b6, .inl (k 0, 6, .inl (fun _ => 0))), (b7, .inl (k 0, 6, .inl (fun _ => 0))), (b8, .inl (k 0, 96, .inl g8))] H := by subst ef_9; exact hP
  have hD : va_D A [(h0, .inr (0, [.ref a0, .ref a1, .ref a2, .ref a3, .ref a4, .ref a5, .ref a6, .ref a7, .ref a8, .int 0, .int 0, .int 0, .int 0, .int 1, .int 0, .int 0, .int 0])), (h1, .inr (0, [.ref b0, .ref b1, .ref b2, .ref b3, .ref b4, .ref b5, .ref b6, .ref b7, .ref b8, .int 0, .int 0, .int 0, .int 0, .int 1, .int 0, .int 0, .int 0])), (a0, .inl (k 0, 16, .inl f_1)), (a1, .inl (k 0, 16, .inl f_2)), (a2, .inl (k 0, 16, .inl f_3)), (a3, .inl (k 0, 16, .inl f_4)), (a4, .inl (k 0, 6, .inl f_5)), (a5, .inl (k 0, 6, .inl f_6)), (a6, .inl (k 0, 6, .inl f_7)), (a7, .inl (k 0, 6, .inl f_8)), (a8, .inl (k 0, 96, .inl f_9)), (b0, .inl (k 0, 16, .inl (fun _ => 0))), (b1, .inl (k 0, 16, .inl (fun _ => 0))), (b2, .inl (k 0, 16, .inl (fun _ => 0))), (b3, .inl (k 0, 16, .inl (fun _ => 0))), (b4, .inl (k 0, 6, .inl (fun _ => 0))), (b5, .inl (k 0, 6, .inl (fun _ => 0))), (b6, .inl (k 0, 6, .inl (fun _ => 0))), (b7, .inl (k 0, 6, .inl (fun _ => 0))), (b8, .inl (k 0, 96, .inl g8))] := by subst ef_9; exact hD
  refine lv_aload_n hx hb dX1_become_135 rfl (lv_at hl 0 rfl) ?_
  refine lv_aload_n hx hb dX1_become_136 rfl (lv_at hl 1 rfl) ?_
  refine va_get (D := D) (ci := 0) (v := .int 0) (C := RX1) (T := TX1) (N := 17) hx hb hT iw_TX1 hown hK.1 hP 1 rfl rfl 9 (by decide) (hT _ wd_132) (fun _ h9 => h9) rfl dX1_become_137 ?_
  refine va_put (D := D) (ci := 0) (v := .int 0) (ty := .int) (C := RX1) (T := TX1) (N := 17) hx hb hT iw_TX1 tyX1 tyX1_ok nmX1 hown hK.1 hP hD hS 0 rfl rfl 9 (by decide) (hT _ wd_132) (fun _ h9 => h9) rfl (by decide +kernel) rfl rfl (Nat.le_of_ble_eq_true rfl) dX1_become_140 (fun H locs hP hD hS => ?_)
  have hP : va_P D gx_cl [(h0, .inr (0, [.ref a0, .ref a1, .ref a2, .ref a3, .ref a4, .ref a5, .ref a6, .ref a7, .ref a8, .int 0, .int 0, .int 0, .int 0, .int 1, .int 0, .int 0, .int 0])), (h1, .inr (0, [.ref b0, .ref b1, .ref b2, .ref b3, .ref b4, .ref b5, .ref b6, .ref b7, .ref b8, .int 0, .int 0, .int 0, .int 0, .int 1, .int 0, .int 0, .int 0])), (a0, .inl (k 0, 16, .inl f_1)), (a1, .inl (k 0, 16, .inl f_2)), (a2, .inl (k 0, 16, .inl f_3)), (a3, .inl (k 0, 16, .inl f_4)), (a4, .inl (k 0, 6, .inl f_5)), (a5, .inl (k 0, 6, .inl f_6)), (a6, .inl (k 0, 6, .inl f_7)), (a7, .inl (k 0, 6, .inl f_8)), (a8, .inl (k 0, 96, .inl f_9)), (b0, .inl (k 0, 16, .inl (fun _ => 0))), (b1, .inl (k 0, 16, .inl (fun _ => 0))), (b2, .inl (k 0, 16, .inl (fun _ => 0))), (b3, .inl (k 0, 16, .inl (fun _ => 0))), (b4, .inl (k 0, 6, .inl (fun _ => 0))), (b5, .inl (k 0, 6, .inl (fun _ => 0))), (b6, .inl (k 0, 6, .inl (fun _ => 0))), (b7, .inl (k 0, 6, .inl (fun _ => 0))), (b8, .inl (k 0, 96, .inl g8))] H := hP
  have hD : va_D A [(h0, .inr (0, [.ref a0, .ref a1, .ref a2, .ref a3, .ref a4, .ref a5, .ref a6, .ref a7, .ref a8, .int 0, .int 0, .int 0, .int 0, .int 1, .int 0, .int 0, .int 0])), (h1, .inr (0, [.ref b0, .ref b1, .ref b2, .ref b3, .ref b4, .ref b5, .ref b6, .ref b7, .ref b8, .int 0, .int 0, .int 0, .int 0, .int 1, .int 0, .int 0, .int 0])), (a0, .inl (k 0, 16, .inl f_1)), (a1, .inl (k 0, 16, .inl f_2)), (a2, .inl (k 0, 16, .inl f_3)), (a3, .inl (k 0, 16, .inl f_4)), (a4, .inl (k 0, 6, .inl f_5)), (a5, .inl (k 0, 6, .inl f_6)), (a6, .inl (k 0, 6, .inl f_7)), (a7, .inl (k 0, 6, .inl f_8)), (a8, .inl (k 0, 96, .inl f_9)), (b0, .inl (k 0, 16, .inl (fun _ => 0))), (b1, .inl (k 0, 16, .inl (fun _ => 0))), (b2, .inl (k 0, 16, .inl (fun _ => 0))), (b3, .inl (k 0, 16, .inl (fun _ => 0))), (b4, .inl (k 0, 6, .inl (fun _ => 0))), (b5, .inl (k 0, 6, .inl (fun _ => 0))), (b6, .inl (k 0, 6, .inl (fun _ => 0))), (b7, .inl (k 0, 6, .inl (fun _ => 0))), (b8, .inl (k 0, 96, .inl g8))] := hD
  refine lv_aload_n hx hb dX1_become_143 rfl (lv_at hl 0 rfl) ?_
  refine lv_aload_n hx hb dX1_become_144 rfl (lv_at hl 1 rfl) ?_
  refine va_get (D := D) (ci := 0) (v := .int 0) (C := RX1) (T := TX1) (N := 17) hx hb hT iw_TX1 hown hK.1 hP 1 rfl rfl 10 (by decide) (hT _ wd_136) (fun _ h9 => h9) rfl dX1_become_145 ?_
  refine va_put (D := D) (ci := 0) (v := .int 0) (ty := .int) (C := RX1) (T := TX1) (N := 17) hx hb hT iw_TX1 tyX1 tyX1_ok nmX1 hown hK.1 hP hD hS 0 rfl rfl 10 (by decide) (hT _ wd_136) (fun _ h9 => h9) rfl (by decide +kernel) rfl rfl (Nat.le_of_ble_eq_true rfl) dX1_become_148 (fun H locs hP hD hS => ?_)
  have hP : va_P D gx_cl [(h0, .inr (0, [.ref a0, .ref a1, .ref a2, .ref a3, .ref a4, .ref a5, .ref a6, .ref a7, .ref a8, .int 0, .int 0, .int 0, .int 0, .int 1, .int 0, .int 0, .int 0])), (h1, .inr (0, [.ref b0, .ref b1, .ref b2, .ref b3, .ref b4, .ref b5, .ref b6, .ref b7, .ref b8, .int 0, .int 0, .int 0, .int 0, .int 1, .int 0, .int 0, .int 0])), (a0, .inl (k 0, 16, .inl f_1)), (a1, .inl (k 0, 16, .inl f_2)), (a2, .inl (k 0, 16, .inl f_3)), (a3, .inl (k 0, 16, .inl f_4)), (a4, .inl (k 0, 6, .inl f_5)), (a5, .inl (k 0, 6, .inl f_6)), (a6, .inl (k 0, 6, .inl f_7)), (a7, .inl (k 0, 6, .inl f_8)), (a8, .inl (k 0, 96, .inl f_9)), (b0, .inl (k 0, 16, .inl (fun _ => 0))), (b1, .inl (k 0, 16, .inl (fun _ => 0))), (b2, .inl (k 0, 16, .inl (fun _ => 0))), (b3, .inl (k 0, 16, .inl (fun _ => 0))), (b4, .inl (k 0, 6, .inl (fun _ => 0))), (b5, .inl (k 0, 6, .inl (fun _ => 0))), (b6, .inl (k 0, 6, .inl (fun _ => 0))), (b7, .inl (k 0, 6, .inl (fun _ => 0))), (b8, .inl (k 0, 96, .inl g8))] H := hP
  have hD : va_D A [(h0, .inr (0, [.ref a0, .ref a1, .ref a2, .ref a3, .ref a4, .ref a5, .ref a6, .ref a7, .ref a8, .int 0, .int 0, .int 0, .int 0, .int 1, .int 0, .int 0, .int 0])), (h1, .inr (0, [.ref b0, .ref b1, .ref b2, .ref b3, .ref b4, .ref b5, .ref b6, .ref b7, .ref b8, .int 0, .int 0, .int 0, .int 0, .int 1, .int 0, .int 0, .int 0])), (a0, .inl (k 0, 16, .inl f_1)), (a1, .inl (k 0, 16, .inl f_2)), (a2, .inl (k 0, 16, .inl f_3)), (a3, .inl (k 0, 16, .inl f_4)), (a4, .inl (k 0, 6, .inl f_5)), (a5, .inl (k 0, 6, .inl f_6)), (a6, .inl (k 0, 6, .inl f_7)), (a7, .inl (k 0, 6, .inl f_8)), (a8, .inl (k 0, 96, .inl f_9)), (b0, .inl (k 0, 16, .inl (fun _ => 0))), (b1, .inl (k 0, 16, .inl (fun _ => 0))), (b2, .inl (k 0, 16, .inl (fun _ => 0))), (b3, .inl (k 0, 16, .inl (fun _ => 0))), (b4, .inl (k 0, 6, .inl (fun _ => 0))), (b5, .inl (k 0, 6, .inl (fun _ => 0))), (b6, .inl (k 0, 6, .inl (fun _ => 0))), (b7, .inl (k 0, 6, .inl (fun _ => 0))), (b8, .inl (k 0, 96, .inl g8))] := hD
  refine lv_aload_n hx hb dX1_become_151 rfl (lv_at hl 0 rfl) ?_
  refine lv_aload_n hx hb dX1_become_152 rfl (lv_at hl 1 rfl) ?_
  refine va_get (D := D) (ci := 0) (v := .int 0) (C := RX1) (T := TX1) (N := 17) hx hb hT iw_TX1 hown hK.1 hP 1 rfl rfl 11 (by decide) (hT _ wd_139) (fun _ h9 => h9) rfl dX1_become_153 ?_
  refine va_put (D := D) (ci := 0) (v := .int 0) (ty := .int) (C := RX1) (T := TX1) (N := 17) hx hb hT iw_TX1 tyX1 tyX1_ok nmX1 hown hK.1 hP hD hS 0 rfl rfl 11 (by decide) (hT _ wd_139) (fun _ h9 => h9) rfl (by decide +kernel) rfl rfl (Nat.le_of_ble_eq_true rfl) dX1_become_156 (fun H locs hP hD hS => ?_)
  have hP : va_P D gx_cl [(h0, .inr (0, [.ref a0, .ref a1, .ref a2, .ref a3, .ref a4, .ref a5, .ref a6, .ref a7, .ref a8, .int 0, .int 0, .int 0, .int 0, .int 1, .int 0, .int 0, .int 0])), (h1, .inr (0, [.ref b0, .ref b1, .ref b2, .ref b3, .ref b4, .ref b5, .ref b6, .ref b7, .ref b8, .int 0, .int 0, .int 0, .int 0, .int 1, .int 0, .int 0, .int 0])), (a0, .inl (k 0, 16, .inl f_1)), (a1, .inl (k 0, 16, .inl f_2)), (a2, .inl (k 0, 16, .inl f_3)), (a3, .inl (k 0, 16, .inl f_4)), (a4, .inl (k 0, 6, .inl f_5)), (a5, .inl (k 0, 6, .inl f_6)), (a6, .inl (k 0, 6, .inl f_7)), (a7, .inl (k 0, 6, .inl f_8)), (a8, .inl (k 0, 96, .inl f_9)), (b0, .inl (k 0, 16, .inl (fun _ => 0))), (b1, .inl (k 0, 16, .inl (fun _ => 0))), (b2, .inl (k 0, 16, .inl (fun _ => 0))), (b3, .inl (k 0, 16, .inl (fun _ => 0))), (b4, .inl (k 0, 6, .inl (fun _ => 0))), (b5, .inl (k 0, 6, .inl (fun _ => 0))), (b6, .inl (k 0, 6, .inl (fun _ => 0))), (b7, .inl (k 0, 6, .inl (fun _ => 0))), (b8, .inl (k 0, 96, .inl g8))] H := hP
  have hD : va_D A [(h0, .inr (0, [.ref a0, .ref a1, .ref a2, .ref a3, .ref a4, .ref a5, .ref a6, .ref a7, .ref a8, .int 0, .int 0, .int 0, .int 0, .int 1, .int 0, .int 0, .int 0])), (h1, .inr (0, [.ref b0, .ref b1, .ref b2, .ref b3, .ref b4, .ref b5, .ref b6, .ref b7, .ref b8, .int 0, .int 0, .int 0, .int 0, .int 1, .int 0, .int 0, .int 0])), (a0, .inl (k 0, 16, .inl f_1)), (a1, .inl (k 0, 16, .inl f_2)), (a2, .inl (k 0, 16, .inl f_3)), (a3, .inl (k 0, 16, .inl f_4)), (a4, .inl (k 0, 6, .inl f_5)), (a5, .inl (k 0, 6, .inl f_6)), (a6, .inl (k 0, 6, .inl f_7)), (a7, .inl (k 0, 6, .inl f_8)), (a8, .inl (k 0, 96, .inl f_9)), (b0, .inl (k 0, 16, .inl (fun _ => 0))), (b1, .inl (k 0, 16, .inl (fun _ => 0))), (b2, .inl (k 0, 16, .inl (fun _ => 0))), (b3, .inl (k 0, 16, .inl (fun _ => 0))), (b4, .inl (k 0, 6, .inl (fun _ => 0))), (b5, .inl (k 0, 6, .inl (fun _ => 0))), (b6, .inl (k 0, 6, .inl (fun _ => 0))), (b7, .inl (k 0, 6, .inl (fun _ => 0))), (b8, .inl (k 0, 96, .inl g8))] := hD
  refine lv_aload_n hx hb dX1_become_159 rfl (lv_at hl 0 rfl) ?_
  refine lv_aload_n hx hb dX1_become_160 rfl (lv_at hl 1 rfl) ?_
  refine va_get (D := D) (ci := 0) (v := .int 0) (C := RX1) (T := TX1) (N := 17) hx hb hT iw_TX1 hown hK.1 hP 1 rfl rfl 12 (by decide) (hT _ wd_141) (fun _ h9 => h9) rfl dX1_become_161 ?_
  refine va_put (D := D) (ci := 0) (v := .int 0) (ty := .int) (C := RX1) (T := TX1) (N := 17) hx hb hT iw_TX1 tyX1 tyX1_ok nmX1 hown hK.1 hP hD hS 0 rfl rfl 12 (by decide) (hT _ wd_141) (fun _ h9 => h9) rfl (by decide +kernel) rfl rfl (Nat.le_of_ble_eq_true rfl) dX1_become_164 (fun H locs hP hD hS => ?_)
  have hP : va_P D gx_cl [(h0, .inr (0, [.ref a0, .ref a1, .ref a2, .ref a3, .ref a4, .ref a5, .ref a6, .ref a7, .ref a8, .int 0, .int 0, .int 0, .int 0, .int 1, .int 0, .int 0, .int 0])), (h1, .inr (0, [.ref b0, .ref b1, .ref b2, .ref b3, .ref b4, .ref b5, .ref b6, .ref b7, .ref b8, .int 0, .int 0, .int 0, .int 0, .int 1, .int 0, .int 0, .int 0])), (a0, .inl (k 0, 16, .inl f_1)), (a1, .inl (k 0, 16, .inl f_2)), (a2, .inl (k 0, 16, .inl f_3)), (a3, .inl (k 0, 16, .inl f_4)), (a4, .inl (k 0, 6, .inl f_5)), (a5, .inl (k 0, 6, .inl f_6)), (a6, .inl (k 0, 6, .inl f_7)), (a7, .inl (k 0, 6, .inl f_8)), (a8, .inl (k 0, 96, .inl f_9)), (b0, .inl (k 0, 16, .inl (fun _ => 0))), (b1, .inl (k 0, 16, .inl (fun _ => 0))), (b2, .inl (k 0, 16, .inl (fun _ => 0))), (b3, .inl (k 0, 16, .inl (fun _ => 0))), (b4, .inl (k 0, 6, .inl (fun _ => 0))), (b5, .inl (k 0, 6, .inl (fun _ => 0))), (b6, .inl (k 0, 6, .inl (fun _ => 0))), (b7, .inl (k 0, 6, .inl (fun _ => 0))), (b8, .inl (k 0, 96, .inl g8))] H := hP
  have hD : va_D A [(h0, .inr (0, [.ref a0, .ref a1, .ref a2, .ref a3, .ref a4, .ref a5, .ref a6, .ref a7, .ref a8, .int 0, .int 0, .int 0, .int 0, .int 1, .int 0, .int 0, .int 0])), (h1, .inr (0, [.ref b0, .ref b1, .ref b2, .ref b3, .ref b4, .ref b5, .ref b6, .ref b7, .ref b8, .int 0, .int 0, .int 0, .int 0, .int 1, .int 0, .int 0, .int 0])), (a0, .inl (k 0, 16, .inl f_1)), (a1, .inl (k 0, 16, .inl f_2)), (a2, .inl (k 0, 16, .inl f_3)), (a3, .inl (k 0, 16, .inl f_4)), (a4, .inl (k 0, 6, .inl f_5)), (a5, .inl (k 0, 6, .inl f_6)), (a6, .inl (k 0, 6, .inl f_7)), (a7, .inl (k 0, 6, .inl f_8)), (a8, .inl (k 0, 96, .inl f_9)), (b0, .inl (k 0, 16, .inl (fun _ => 0))), (b1, .inl (k 0, 16, .inl (fun _ => 0))), (b2, .inl (k 0, 16, .inl (fun _ => 0))), (b3, .inl (k 0, 16, .inl (fun _ => 0))), (b4, .inl (k 0, 6, .inl (fun _ => 0))), (b5, .inl (k 0, 6, .inl (fun _ => 0))), (b6, .inl (k 0, 6, .inl (fun _ => 0))), (b7, .inl (k 0, 6, .inl (fun _ => 0))), (b8, .inl (k 0, 96, .inl g8))] := hD
  refine lv_aload_n hx hb dX1_become_167 rfl (lv_at hl 0 rfl) ?_
  refine lv_aload_n hx hb dX1_become_168 rfl (lv_at hl 1 rfl) ?_
  refine va_get (D := D) (ci := 0) (v := .int 1) (C := RX1) (T := TX1) (N := 17) hx hb hT iw_TX1 hown hK.1 hP 1 rfl rfl 13 (by decide) (hT _ wd_144) (fun _ h9 => h9) rfl dX1_become_169 ?_
  refine va_put (D := D) (ci := 0) (v := .int 1) (ty := .int) (C := RX1) (T := TX1) (N := 17) hx hb hT iw_TX1 tyX1 tyX1_ok nmX1 hown hK.1 hP hD hS 0 rfl rfl 13 (by decide) (hT _ wd_144) (fun _ h9 => h9) rfl (by decide +kernel) rfl rfl (Nat.le_of_ble_eq_true rfl) dX1_become_172 (fun H locs hP hD hS => ?_)
  have hP : va_P D gx_cl [(h0, .inr (0, [.ref a0, .ref a1, .ref a2, .ref a3, .ref a4, .ref a5, .ref a6, .ref a7, .ref a8, .int 0, .int 0, .int 0, .int 0, .int 1, .int 0, .int 0, .int 0])), (h1, .inr (0, [.ref b0, .ref b1, .ref b2, .ref b3, .ref b4, .ref b5, .ref b6, .ref b7, .ref b8, .int 0, .int 0, .int 0, .int 0, .int 1, .int 0, .int 0, .int 0])), (a0, .inl (k 0, 16, .inl f_1)), (a1, .inl (k 0, 16, .inl f_2)), (a2, .inl (k 0, 16, .inl f_3)), (a3, .inl (k 0, 16, .inl f_4)), (a4, .inl (k 0, 6, .inl f_5)), (a5, .inl (k 0, 6, .inl f_6)), (a6, .inl (k 0, 6, .inl f_7)), (a7, .inl (k 0, 6, .inl f_8)), (a8, .inl (k 0, 96, .inl f_9)), (b0, .inl (k 0, 16, .inl (fun _ => 0))), (b1, .inl (k 0, 16, .inl (fun _ => 0))), (b2, .inl (k 0, 16, .inl (fun _ => 0))), (b3, .inl (k 0, 16, .inl (fun _ => 0))), (b4, .inl (k 0, 6, .inl (fun _ => 0))), (b5, .inl (k 0, 6, .inl (fun _ => 0))), (b6, .inl (k 0, 6, .inl (fun _ => 0))), (b7, .inl (k 0, 6, .inl (fun _ => 0))), (b8, .inl (k 0, 96, .inl g8))] H := hP
  have hD : va_D A [(h0, .inr (0, [.ref a0, .ref a1, .ref a2, .ref a3, .ref a4, .ref a5, .ref a6, .ref a7, .ref a8, .int 0, .int 0, .int 0, .int 0, .int 1, .int 0, .int 0, .int 0])), (h1, .inr (0, [.ref b0, .ref b1, .ref b2, .ref b3, .ref b4, .ref b5, .ref b6, .ref b7, .ref b8, .int 0, .int 0, .int 0, .int 0, .int 1, .int 0, .int 0, .int 0])), (a0, .inl (k 0, 16, .inl f_1)), (a1, .inl (k 0, 16, .inl f_2)), (a2, .inl (k 0, 16, .inl f_3)), (a3, .inl (k 0, 16, .inl f_4)), (a4, .inl (k 0, 6, .inl f_5)), (a5, .inl (k 0, 6, .inl f_6)), (a6, .inl (k 0, 6, .inl f_7)), (a7, .inl (k 0, 6, .inl f_8)), (a8, .inl (k 0, 96, .inl f_9)), (b0, .inl (k 0, 16, .inl (fun _ => 0))), (b1, .inl (k 0, 16, .inl (fun _ => 0))), (b2, .inl (k 0, 16, .inl (fun _ => 0))), (b3, .inl (k 0, 16, .inl (fun _ => 0))), (b4, .inl (k 0, 6, .inl (fun _ => 0))), (b5, .inl (k 0, 6, .inl (fun _ => 0))), (b6, .inl (k 0, 6, .inl (fun _ => 0))), (b7, .inl (k 0, 6, .inl (fun _ => 0))), (b8, .inl (k 0, 96, .inl g8))] := hD
  refine lv_aload_n hx hb dX1_become_175 rfl (lv_at hl 0 rfl) ?_
  refine lv_aload_n hx hb dX1_become_176 rfl (lv_at hl 1 rfl) ?_
  refine va_get (D := D) (ci := 0) (v := .int 0) (C := RX1) (T := TX1) (N := 17) hx hb hT iw_TX1 hown hK.1 hP 1 rfl rfl 14 (by decide) (hT _ wd_146) (fun _ h9 => h9) rfl dX1_become_177 ?_
  refine va_put (D := D) (ci := 0) (v := .int 0) (ty := .int) (C := RX1) (T := TX1) (N := 17) hx hb hT iw_TX1 tyX1 tyX1_ok nmX1 hown hK.1 hP hD hS 0 rfl rfl 14 (by decide) (hT _ wd_146) (fun _ h9 => h9) rfl (by decide +kernel) rfl rfl (Nat.le_of_ble_eq_true rfl) dX1_become_180 (fun H locs hP hD hS => ?_)
  have hP : va_P D gx_cl [(h0, .inr (0, [.ref a0, .ref a1, .ref a2, .ref a3, .ref a4, .ref a5, .ref a6, .ref a7, .ref a8, .int 0, .int 0, .int 0, .int 0, .int 1, .int 0, .int 0, .int 0])), (h1, .inr (0, [.ref b0, .ref b1, .ref b2, .ref b3, .ref b4, .ref b5, .ref b6, .ref b7, .ref b8, .int 0, .int 0, .int 0, .int 0, .int 1, .int 0, .int 0, .int 0])), (a0, .inl (k 0, 16, .inl f_1)), (a1, .inl (k 0, 16, .inl f_2)), (a2, .inl (k 0, 16, .inl f_3)), (a3, .inl (k 0, 16, .inl f_4)), (a4, .inl (k 0, 6, .inl f_5)), (a5, .inl (k 0, 6, .inl f_6)), (a6, .inl (k 0, 6, .inl f_7)), (a7, .inl (k 0, 6, .inl f_8)), (a8, .inl (k 0, 96, .inl f_9)), (b0, .inl (k 0, 16, .inl (fun _ => 0))), (b1, .inl (k 0, 16, .inl (fun _ => 0))), (b2, .inl (k 0, 16, .inl (fun _ => 0))), (b3, .inl (k 0, 16, .inl (fun _ => 0))), (b4, .inl (k 0, 6, .inl (fun _ => 0))), (b5, .inl (k 0, 6, .inl (fun _ => 0))), (b6, .inl (k 0, 6, .inl (fun _ => 0))), (b7, .inl (k 0, 6, .inl (fun _ => 0))), (b8, .inl (k 0, 96, .inl g8))] H := hP
  have hD : va_D A [(h0, .inr (0, [.ref a0, .ref a1, .ref a2, .ref a3, .ref a4, .ref a5, .ref a6, .ref a7, .ref a8, .int 0, .int 0, .int 0, .int 0, .int 1, .int 0, .int 0, .int 0])), (h1, .inr (0, [.ref b0, .ref b1, .ref b2, .ref b3, .ref b4, .ref b5, .ref b6, .ref b7, .ref b8, .int 0, .int 0, .int 0, .int 0, .int 1, .int 0, .int 0, .int 0])), (a0, .inl (k 0, 16, .inl f_1)), (a1, .inl (k 0, 16, .inl f_2)), (a2, .inl (k 0, 16, .inl f_3)), (a3, .inl (k 0, 16, .inl f_4)), (a4, .inl (k 0, 6, .inl f_5)), (a5, .inl (k 0, 6, .inl f_6)), (a6, .inl (k 0, 6, .inl f_7)), (a7, .inl (k 0, 6, .inl f_8)), (a8, .inl (k 0, 96, .inl f_9)), (b0, .inl (k 0, 16, .inl (fun _ => 0))), (b1, .inl (k 0, 16, .inl (fun _ => 0))), (b2, .inl (k 0, 16, .inl (fun _ => 0))), (b3, .inl (k 0, 16, .inl (fun _ => 0))), (b4, .inl (k 0, 6, .inl (fun _ => 0))), (b5, .inl (k 0, 6, .inl (fun _ => 0))), (b6, .inl (k 0, 6, .inl (fun _ => 0))), (b7, .inl (k 0, 6, .inl (fun _ => 0))), (b8, .inl (k 0, 96, .inl g8))] := hD
  refine lv_aload_n hx hb dX1_become_183 rfl (lv_at hl 0 rfl) ?_
  refine lv_aload_n hx hb dX1_become_184 rfl (lv_at hl 1 rfl) ?_
  refine va_get (D := D) (ci := 0) (v := .int 0) (C := RX1) (T := TX1) (N := 17) hx hb hT iw_TX1 hown hK.1 hP 1 rfl rfl 15 (by decide) (hT _ wd_149) (fun _ h9 => h9) rfl dX1_become_185 ?_
  refine va_put (D := D) (ci := 0) (v := .int 0) (ty := .int) (C := RX1) (T := TX1) (N := 17) hx hb hT iw_TX1 tyX1 tyX1_ok nmX1 hown hK.1 hP hD hS 0 rfl rfl 15 (by decide) (hT _ wd_149) (fun _ h9 => h9) rfl (by decide +kernel) rfl rfl (Nat.le_of_ble_eq_true rfl) dX1_become_188 (fun H locs hP hD hS => ?_)
  have hP : va_P D gx_cl [(h0, .inr (0, [.ref a0, .ref a1, .ref a2, .ref a3, .ref a4, .ref a5, .ref a6, .ref a7, .ref a8, .int 0, .int 0, .int 0, .int 0, .int 1, .int 0, .int 0, .int 0])), (h1, .inr (0, [.ref b0, .ref b1, .ref b2, .ref b3, .ref b4, .ref b5, .ref b6, .ref b7, .ref b8, .int 0, .int 0, .int 0, .int 0, .int 1, .int 0, .int 0, .int 0])), (a0, .inl (k 0, 16, .inl f_1)), (a1, .inl (k 0, 16, .inl f_2)), (a2, .inl (k 0, 16, .inl f_3)), (a3, .inl (k 0, 16, .inl f_4)), (a4, .inl (k 0, 6, .inl f_5)), (a5, .inl (k 0, 6, .inl f_6)), (a6, .inl (k 0, 6, .inl f_7)), (a7, .inl (k 0, 6, .inl f_8)), (a8, .inl (k 0, 96, .inl f_9)), (b0, .inl (k 0, 16, .inl (fun _ => 0))), (b1, .inl (k 0, 16, .inl (fun _ => 0))), (b2, .inl (k 0, 16, .inl (fun _ => 0))), (b3, .inl (k 0, 16, .inl (fun _ => 0))), (b4, .inl (k 0, 6, .inl (fun _ => 0))), (b5, .inl (k 0, 6, .inl (fun _ => 0))), (b6, .inl (k 0, 6, .inl (fun _ => 0))), (b7, .inl (k 0, 6, .inl (fun _ => 0))), (b8, .inl (k 0, 96, .inl g8))] H := hP
  have hD : va_D A [(h0, .inr (0, [.ref a0, .ref a1, .ref a2, .ref a3, .ref a4, .ref a5, .ref a6, .ref a7, .ref a8, .int 0, .int 0, .int 0, .int 0, .int 1, .int 0, .int 0, .int 0])), (h1, .inr (0, [.ref b0, .ref b1, .ref b2, .ref b3, .ref b4, .ref b5, .ref b6, .ref b7, .ref b8, .int 0, .int 0, .int 0, .int 0, .int 1, .int 0, .int 0, .int 0])), (a0, .inl (k 0, 16, .inl f_1)), (a1, .inl (k 0, 16, .inl f_2)), (a2, .inl (k 0, 16, .inl f_3)), (a3, .inl (k 0, 16, .inl f_4)), (a4, .inl (k 0, 6, .inl f_5)), (a5, .inl (k 0, 6, .inl f_6)), (a6, .inl (k 0, 6, .inl f_7)), (a7, .inl (k 0, 6, .inl f_8)), (a8, .inl (k 0, 96, .inl f_9)), (b0, .inl (k 0, 16, .inl (fun _ => 0))), (b1, .inl (k 0, 16, .inl (fun _ => 0))), (b2, .inl (k 0, 16, .inl (fun _ => 0))), (b3, .inl (k 0, 16, .inl (fun _ => 0))), (b4, .inl (k 0, 6, .inl (fun _ => 0))), (b5, .inl (k 0, 6, .inl (fun _ => 0))), (b6, .inl (k 0, 6, .inl (fun _ => 0))), (b7, .inl (k 0, 6, .inl (fun _ => 0))), (b8, .inl (k 0, 96, .inl g8))] := hD
  refine lv_aload_n hx hb dX1_become_191 rfl (lv_at hl 0 rfl) ?_
  refine lv_aload_n hx hb dX1_become_192 rfl (lv_at hl 1 rfl) ?_
  refine va_get (D := D) (ci := 0) (v := .int 0) (C := RX1) (T := TX1) (N := 17) hx hb hT iw_TX1 hown hK.1 hP 1 rfl rfl 16 (by decide) (hT _ wd_151) (fun _ h9 => h9) rfl dX1_become_193 ?_
  refine va_put (D := D) (ci := 0) (v := .int 0) (ty := .int) (C := RX1) (T := TX1) (N := 17) hx hb hT iw_TX1 tyX1 tyX1_ok nmX1 hown hK.1 hP hD hS 0 rfl rfl 16 (by decide) (hT _ wd_151) (fun _ h9 => h9) rfl (by decide +kernel) rfl rfl (Nat.le_of_ble_eq_true rfl) dX1_become_196 (fun H locs hP hD hS => ?_)
  have hP : va_P D gx_cl [(h0, .inr (0, [.ref a0, .ref a1, .ref a2, .ref a3, .ref a4, .ref a5, .ref a6, .ref a7, .ref a8, .int 0, .int 0, .int 0, .int 0, .int 1, .int 0, .int 0, .int 0])), (h1, .inr (0, [.ref b0, .ref b1, .ref b2, .ref b3, .ref b4, .ref b5, .ref b6, .ref b7, .ref b8, .int 0, .int 0, .int 0, .int 0, .int 1, .int 0, .int 0, .int 0])), (a0, .inl (k 0, 16, .inl f_1)), (a1, .inl (k 0, 16, .inl f_2)), (a2, .inl (k 0, 16, .inl f_3)), (a3, .inl (k 0, 16, .inl f_4)), (a4, .inl (k 0, 6, .inl f_5)), (a5, .inl (k 0, 6, .inl f_6)), (a6, .inl (k 0, 6, .inl f_7)), (a7, .inl (k 0, 6, .inl f_8)), (a8, .inl (k 0, 96, .inl f_9)), (b0, .inl (k 0, 16, .inl (fun _ => 0))), (b1, .inl (k 0, 16, .inl (fun _ => 0))), (b2, .inl (k 0, 16, .inl (fun _ => 0))), (b3, .inl (k 0, 16, .inl (fun _ => 0))), (b4, .inl (k 0, 6, .inl (fun _ => 0))), (b5, .inl (k 0, 6, .inl (fun _ => 0))), (b6, .inl (k 0, 6, .inl (fun _ => 0))), (b7, .inl (k 0, 6, .inl (fun _ => 0))), (b8, .inl (k 0, 96, .inl g8))] H := hP
  have hD : va_D A [(h0, .inr (0, [.ref a0, .ref a1, .ref a2, .ref a3, .ref a4, .ref a5, .ref a6, .ref a7, .ref a8, .int 0, .int 0, .int 0, .int 0, .int 1, .int 0, .int 0, .int 0])), (h1, .inr (0, [.ref b0, .ref b1, .ref b2, .ref b3, .ref b4, .ref b5, .ref b6, .ref b7, .ref b8, .int 0, .int 0, .int 0, .int 0, .int 1, .int 0, .int 0, .int 0])), (a0, .inl (k 0, 16, .inl f_1)), (a1, .inl (k 0, 16, .inl f_2)), (a2, .inl (k 0, 16, .inl f_3)), (a3, .inl (k 0, 16, .inl f_4)), (a4, .inl (k 0, 6, .inl f_5)), (a5, .inl (k 0, 6, .inl f_6)), (a6, .inl (k 0, 6, .inl f_7)), (a7, .inl (k 0, 6, .inl f_8)), (a8, .inl (k 0, 96, .inl f_9)), (b0, .inl (k 0, 16, .inl (fun _ => 0))), (b1, .inl (k 0, 16, .inl (fun _ => 0))), (b2, .inl (k 0, 16, .inl (fun _ => 0))), (b3, .inl (k 0, 16, .inl (fun _ => 0))), (b4, .inl (k 0, 6, .inl (fun _ => 0))), (b5, .inl (k 0, 6, .inl (fun _ => 0))), (b6, .inl (k 0, 6, .inl (fun _ => 0))), (b7, .inl (k 0, 6, .inl (fun _ => 0))), (b8, .inl (k 0, 96, .inl g8))] := hD
  have hP9 := gx_subP (wc := ([(h0, .inr (0, [.ref a0, .ref a1, .ref a2, .ref a3, .ref a4, .ref a5, .ref a6, .ref a7, .ref a8, .int 0, .int 0, .int 0, .int 0, .int 1, .int 0, .int 0, .int 0]))] : va_W)) hP [0] rfl
  have hD9 := hD.sub (ws' := ([(h0, .inr (0, [.ref a0, .ref a1, .ref a2, .ref a3, .ref a4, .ref a5, .ref a6, .ref a7, .ref a8, .int 0, .int 0, .int 0, .int 0, .int 1, .int 0, .int 0, .int 0]))] : va_W)) [0] (by decide) rfl
  exact gx_retV C (u := ()) hP9 hD9 hS (trivial) dX1_become_199
set_option maxHeartbeats 4000000 in
set_option maxRecDepth 100000 in
theorem k_goneInAll (l : Launch) (D : va_G) (k : Nat → ClassId) (h0 : Nat) (a0 : Nat) (a1 : Nat) (a2 : Nat) (a3 : Nat) (a4 : Nat) (a5 : Nat) (a6 : Nat) (a7 : Nat) (a8 : Nat) (sz : Nat) : Met l yX1_goneInAll (.code yX1_goneInAll cX1_goneInAll 3 (some .int) :: gx_T) ({ frames := 0, cells := 0, slots := 0, locals := 0 }) (gx_Pre D k [.ref h0] ([(h0, .inr (0, [.ref a0, .ref a1, .ref a2, .ref a3, .ref a4, .ref a5, .ref a6, .ref a7, .ref a8, .int 0, .int 0, .int 0, .int 0, .int 1, .int 0, .int 0, .int 0]))]) sz) (gx_Pi (fun r => r = 0)) 0 0 gx_No := by
  refine gx_metP (by decide) (Nat.le_of_ble_eq_true rfl) ?_
  intro p e s m below meth c ls C hP hD hK hS hl
  obtain ⟨hx, hb, hr, hml, hown, hT, hlk, hin⟩ := id C
  have hown : s.vm.findClass RX1 = some m.cls := hown
  have hl : lv_has ls 3 [(0, .ref h0)] := hl
  refine lv_iconst (v := 0) hx hb dX1_goneInAll_0 (by decide) ?_
  refine lv_istore_n (lv' := [(1, .int 0), (0, .ref h0)]) hx hb dX1_goneInAll_1 rfl hl (by decide) rfl (fun ls hl => ?_)
  refine lv_iconst (v := 0) hx hb dX1_goneInAll_2 (by decide) ?_
  refine lv_istore_n (lv' := [(2, .int 0), (1, .int 0), (0, .ref h0)]) hx hb dX1_goneInAll_3 rfl hl (by decide) rfl (fun ls hl => ?_)
  refine lv_iload_n hx hb dX1_goneInAll_4 rfl (lv_at hl 0 rfl) ?_
  refine lv_aload_n hx hb dX1_goneInAll_5 rfl (lv_at hl 2 rfl) ?_
  refine va_get (D := D) (ci := 0) (v := .int 0) (C := RX1) (T := TX1) (N := 17) hx hb hT iw_TX1 hown hK.1 hP 0 rfl rfl 10 (by decide) (hT _ wd_136) (fun _ h9 => h9) rfl dX1_goneInAll_6 ?_
  refine lv_icmp_ge (tgt := 27) hx hb dX1_goneInAll_9 (by decide) (fun c_1 => ?_) (fun c_1 => absurd (by decide) c_1)
  refine lv_iload_n hx hb dX1_goneInAll_27 rfl (lv_at hl 1 rfl) ?_
  exact gx_retP C hS (rfl) dX1_goneInAll_28
set_option maxHeartbeats 4000000 in
set_option maxRecDepth 100000 in
theorem k_append1 (l : Launch) (D : va_G) (k : Nat → ClassId) (h0 : Nat) (b0 : Nat) (v : Int32) (sz : Nat) : Met l yX4_append (.code yX4_append cX4_append 4 none :: gx_T) ({ frames := 0, cells := 0, slots := 0, locals := 0 }) (gx_Pre D k [.ref h0, .int v, .int 1] ([(h0, .inr (2, [.ref b0, .int 0, .int (-1), .int 0, .int 0, .int 0])), (b0, .inl (k 0, 250, .inl (fun _ => 0)))]) sz) (gx_Qv D (fun (u : Unit) => True) (fun (u : Unit) => ([(h0, .inr (2, [.ref b0, .int 1, .int (-1), .int 0, .int 0, .int 0]))] : va_W)) (va_A ([(h0, .inr (2, [.ref b0, .int 0, .int (-1), .int 0, .int 0, .int 0])), (b0, .inl (k 0, 250, .inl (fun _ => 0)))]) sz)) 0 0 (va_A ([(h0, .inr (2, [.ref b0, .int 0, .int (-1), .int 0, .int 0, .int 0])), (b0, .inl (k 0, 250, .inl (fun _ => 0)))]) sz) := by
  refine gx_metE (Qc := fun A => gx_Qv D (fun (u : Unit) => True) (fun (u : Unit) => ([(h0, .inr (2, [.ref b0, .int 1, .int (-1), .int 0, .int 0, .int 0]))] : va_W)) A) (by decide) (Nat.le_of_ble_eq_true rfl) ?_
  intro p e s m below meth c A ls C hA hP hD hK hS hl
  obtain ⟨hx, hb, hr, hml, hown, hT, hlk, hin⟩ := id C
  have hown : s.vm.findClass RX4 = some m.cls := hown
  have hl : lv_has ls 4 [(0, .ref h0), (1, .int v), (2, .int 1)] := hl
  refine lv_iload_n hx hb dX4_append_0 rfl (lv_at hl 2 rfl) ?_
  refine lv_iconst (v := 1) hx hb dX4_append_1 (by decide) ?_
  refine lv_isub hx hb dX4_append_2 ?_
  refine gx_cst (v := 0) (by decide) ?_
  refine lv_istore_n (lv' := [(3, .int 0), (0, .ref h0), (1, .int v), (2, .int 1)]) hx hb dX4_append_3 rfl hl (by decide) rfl (fun ls hl => ?_)
  refine lv_iload_n hx hb dX4_append_4 rfl (lv_at hl 0 rfl) ?_
  refine lv_if_lt (tgt := 53) hx hb dX4_append_5 (by decide) (fun c_1 => absurd c_1 (by decide)) (fun c_1 => ?_)
  refine lv_aload_n hx hb dX4_append_8 rfl (lv_at hl 1 rfl) ?_
  refine va_get (D := D) (ci := 2) (v := .int 0) (C := RX4) (T := TX4) (N := 6) hx hb hT iw_TX4 hown hK.1 hP 0 rfl rfl 1 (by decide) (hT _ wd_196) (fun _ h9 => h9) rfl dX4_append_9 ?_
  refine lv_sipush (v := 250) hx hb dX4_append_12 (by decide) ?_
  refine lv_icmp_ge (tgt := 53) hx hb dX4_append_15 (by decide) (fun c_2 => absurd c_2 (by decide)) (fun c_2 => ?_)
  refine lv_aload_n hx hb dX4_append_18 rfl (lv_at hl 1 rfl) ?_
  refine va_get (D := D) (ci := 2) (v := .ref b0) (C := RX4) (T := TX4) (N := 6) hx hb hT iw_TX4 hown hK.1 hP 0 rfl rfl 0 (by decide) (hT _ wd_195) (fun _ h9 => h9) rfl dX4_append_19 ?_
  refine lv_aload_n hx hb dX4_append_22 rfl (lv_at hl 1 rfl) ?_
  refine va_get (D := D) (ci := 2) (v := .int 0) (C := RX4) (T := TX4) (N := 6) hx hb hT iw_TX4 hown hK.1 hP 0 rfl rfl 1 (by decide) (hT _ wd_196) (fun _ h9 => h9) rfl dX4_append_23 ?_
  refine lv_iload_n hx hb dX4_append_26 rfl (lv_at hl 2 rfl) ?_
  refine lv_bipush (v := 8) hx hb dX4_append_27 (by decide) ?_
  refine lv_iload_n hx hb dX4_append_29 rfl (lv_at hl 0 rfl) ?_
  refine lv_imul hx hb dX4_append_30 ?_
  refine gx_cst (v := 0) (by decide) ?_
  refine lv_ishr hx hb dX4_append_31 ?_
  refine lv_sipush (v := 255) hx hb dX4_append_32 (by decide) ?_
  refine lv_iand hx hb dX4_append_35 ?_
  refine va_iast hx hb hK.1 hP hD hS 1 0 rfl rfl (gx_vin rfl) dX4_append_36 (fun H locs hP hD hS => ?_)
  obtain ⟨f_3, ef_3⟩ : ∃ f9, f9 = upd ((fun _ => 0) : Nat → Int32) (0 : Int32).toNatClampNeg (((v >>> ((0 : Int32) &&& 31)) &&& (255 : Int32)) : Int32) := ⟨_, rfl⟩
  have hP : va_P D gx_cl [(h0, .inr (2, [.ref b0, .int 0, .int (-1), .int 0, .int 0, .int 0])), (b0, .inl (k 0, 250, .inl f_3))] H := by subst ef_3; exact hP
  have hD : va_D A [(h0, .inr (2, [.ref b0, .int 0, .int (-1), .int 0, .int 0, .int 0])), (b0, .inl (k 0, 250, .inl f_3))] := by subst ef_3; exact hD
  refine lv_aload_n hx hb dX4_append_37 rfl (lv_at hl 1 rfl) ?_
  refine lv_dup hx hb dX4_append_38 rfl ?_
  refine va_get (D := D) (ci := 2) (v := .int 0) (C := RX4) (T := TX4) (N := 6) hx hb hT iw_TX4 hown hK.1 hP 0 rfl rfl 1 (by decide) (hT _ wd_196) (fun _ h9 => h9) rfl dX4_append_39 ?_
  refine lv_iconst (v := 1) hx hb dX4_append_42 (by decide) ?_
  refine lv_iadd hx hb dX4_append_43 ?_
  refine gx_cst (v := 1) (by decide) ?_
  refine va_put (D := D) (ci := 2) (v := .int 1) (ty := .int) (C := RX4) (T := TX4) (N := 6) hx hb hT iw_TX4 tyX4 tyX4_ok nmX4 hown hK.1 hP hD hS 0 rfl rfl 1 (by decide) (hT _ wd_196) (fun _ h9 => h9) rfl (by decide +kernel) rfl rfl (Nat.le_of_ble_eq_true rfl) dX4_append_44 (fun H locs hP hD hS => ?_)
  have hP : va_P D gx_cl [(h0, .inr (2, [.ref b0, .int 1, .int (-1), .int 0, .int 0, .int 0])), (b0, .inl (k 0, 250, .inl f_3))] H := hP
  have hD : va_D A [(h0, .inr (2, [.ref b0, .int 1, .int (-1), .int 0, .int 0, .int 0])), (b0, .inl (k 0, 250, .inl f_3))] := hD
  refine lv_iinc (v := (-1)) (lv' := [(3, .int (-1)), (0, .ref h0), (1, .int v), (2, .int 1)]) hx hb dX4_append_47 hl (k := 0) rfl (by decide) (by decide) rfl (fun ls hl => ?_)
  refine lv_goto (tgt := 4) hx hb dX4_append_50 (by decide) ?_
  refine lv_iload_n hx hb dX4_append_4 rfl (lv_at hl 0 rfl) ?_
  refine lv_if_lt (tgt := 53) hx hb dX4_append_5 (by decide) (fun c_4 => ?_) (fun c_4 => absurd (by decide) c_4)
  have hP9 := gx_subP (wc := ([(h0, .inr (2, [.ref b0, .int 1, .int (-1), .int 0, .int 0, .int 0]))] : va_W)) hP [0] rfl
  have hD9 := hD.sub (ws' := ([(h0, .inr (2, [.ref b0, .int 1, .int (-1), .int 0, .int 0, .int 0]))] : va_W)) [0] (by decide) rfl
  exact gx_retV C (u := ()) hP9 hD9 hS (trivial) dX4_append_53
set_option maxHeartbeats 4000000 in
set_option maxRecDepth 100000 in
theorem k_append2 (l : Launch) (D : va_G) (k : Nat → ClassId) (h0 : Nat) (b0 : Nat) (v : Int32) (sz : Nat) : Met l yX4_append (.code yX4_append cX4_append 4 none :: gx_T) ({ frames := 0, cells := 0, slots := 0, locals := 0 }) (gx_Pre D k [.ref h0, .int v, .int 2] ([(h0, .inr (2, [.ref b0, .int 0, .int (-1), .int 0, .int 0, .int 0])), (b0, .inl (k 0, 250, .inl (fun _ => 0)))]) sz) (gx_Qv D (fun (u : Unit) => True) (fun (u : Unit) => ([(h0, .inr (2, [.ref b0, .int 2, .int (-1), .int 0, .int 0, .int 0]))] : va_W)) (va_A ([(h0, .inr (2, [.ref b0, .int 0, .int (-1), .int 0, .int 0, .int 0])), (b0, .inl (k 0, 250, .inl (fun _ => 0)))]) sz)) 0 0 (va_A ([(h0, .inr (2, [.ref b0, .int 0, .int (-1), .int 0, .int 0, .int 0])), (b0, .inl (k 0, 250, .inl (fun _ => 0)))]) sz) := by
  refine gx_metE (Qc := fun A => gx_Qv D (fun (u : Unit) => True) (fun (u : Unit) => ([(h0, .inr (2, [.ref b0, .int 2, .int (-1), .int 0, .int 0, .int 0]))] : va_W)) A) (by decide) (Nat.le_of_ble_eq_true rfl) ?_
  intro p e s m below meth c A ls C hA hP hD hK hS hl
  obtain ⟨hx, hb, hr, hml, hown, hT, hlk, hin⟩ := id C
  have hown : s.vm.findClass RX4 = some m.cls := hown
  have hl : lv_has ls 4 [(0, .ref h0), (1, .int v), (2, .int 2)] := hl
  refine lv_iload_n hx hb dX4_append_0 rfl (lv_at hl 2 rfl) ?_
  refine lv_iconst (v := 1) hx hb dX4_append_1 (by decide) ?_
  refine lv_isub hx hb dX4_append_2 ?_
  refine gx_cst (v := 1) (by decide) ?_
  refine lv_istore_n (lv' := [(3, .int 1), (0, .ref h0), (1, .int v), (2, .int 2)]) hx hb dX4_append_3 rfl hl (by decide) rfl (fun ls hl => ?_)
  refine lv_iload_n hx hb dX4_append_4 rfl (lv_at hl 0 rfl) ?_
  refine lv_if_lt (tgt := 53) hx hb dX4_append_5 (by decide) (fun c_1 => absurd c_1 (by decide)) (fun c_1 => ?_)
  refine lv_aload_n hx hb dX4_append_8 rfl (lv_at hl 1 rfl) ?_
  refine va_get (D := D) (ci := 2) (v := .int 0) (C := RX4) (T := TX4) (N := 6) hx hb hT iw_TX4 hown hK.1 hP 0 rfl rfl 1 (by decide) (hT _ wd_196) (fun _ h9 => h9) rfl dX4_append_9 ?_
  refine lv_sipush (v := 250) hx hb dX4_append_12 (by decide) ?_
  refine lv_icmp_ge (tgt := 53) hx hb dX4_append_15 (by decide) (fun c_2 => absurd c_2 (by decide)) (fun c_2 => ?_)
  refine lv_aload_n hx hb dX4_append_18 rfl (lv_at hl 1 rfl) ?_
  refine va_get (D := D) (ci := 2) (v := .ref b0) (C := RX4) (T := TX4) (N := 6) hx hb hT iw_TX4 hown hK.1 hP 0 rfl rfl 0 (by decide) (hT _ wd_195) (fun _ h9 => h9) rfl dX4_append_19 ?_
  refine lv_aload_n hx hb dX4_append_22 rfl (lv_at hl 1 rfl) ?_
  refine va_get (D := D) (ci := 2) (v := .int 0) (C := RX4) (T := TX4) (N := 6) hx hb hT iw_TX4 hown hK.1 hP 0 rfl rfl 1 (by decide) (hT _ wd_196) (fun _ h9 => h9) rfl dX4_append_23 ?_
  refine lv_iload_n hx hb dX4_append_26 rfl (lv_at hl 2 rfl) ?_
  refine lv_bipush (v := 8) hx hb dX4_append_27 (by decide) ?_
  refine lv_iload_n hx hb dX4_append_29 rfl (lv_at hl 0 rfl) ?_
  refine lv_imul hx hb dX4_append_30 ?_
  refine gx_cst (v := 8) (by decide) ?_
  refine lv_ishr hx hb dX4_append_31 ?_
  refine lv_sipush (v := 255) hx hb dX4_append_32 (by decide) ?_
  refine lv_iand hx hb dX4_append_35 ?_
  refine va_iast hx hb hK.1 hP hD hS 1 0 rfl rfl (gx_vin rfl) dX4_append_36 (fun H locs hP hD hS => ?_)
  obtain ⟨f_3, ef_3⟩ : ∃ f9, f9 = upd ((fun _ => 0) : Nat → Int32) (0 : Int32).toNatClampNeg (((v >>> ((8 : Int32) &&& 31)) &&& (255 : Int32)) : Int32) := ⟨_, rfl⟩
  have hP : va_P D gx_cl [(h0, .inr (2, [.ref b0, .int 0, .int (-1), .int 0, .int 0, .int 0])), (b0, .inl (k 0, 250, .inl f_3))] H := by subst ef_3; exact hP
  have hD : va_D A [(h0, .inr (2, [.ref b0, .int 0, .int (-1), .int 0, .int 0, .int 0])), (b0, .inl (k 0, 250, .inl f_3))] := by subst ef_3; exact hD
  refine lv_aload_n hx hb dX4_append_37 rfl (lv_at hl 1 rfl) ?_
  refine lv_dup hx hb dX4_append_38 rfl ?_
  refine va_get (D := D) (ci := 2) (v := .int 0) (C := RX4) (T := TX4) (N := 6) hx hb hT iw_TX4 hown hK.1 hP 0 rfl rfl 1 (by decide) (hT _ wd_196) (fun _ h9 => h9) rfl dX4_append_39 ?_
  refine lv_iconst (v := 1) hx hb dX4_append_42 (by decide) ?_
  refine lv_iadd hx hb dX4_append_43 ?_
  refine gx_cst (v := 1) (by decide) ?_
  refine va_put (D := D) (ci := 2) (v := .int 1) (ty := .int) (C := RX4) (T := TX4) (N := 6) hx hb hT iw_TX4 tyX4 tyX4_ok nmX4 hown hK.1 hP hD hS 0 rfl rfl 1 (by decide) (hT _ wd_196) (fun _ h9 => h9) rfl (by decide +kernel) rfl rfl (Nat.le_of_ble_eq_true rfl) dX4_append_44 (fun H locs hP hD hS => ?_)
  have hP : va_P D gx_cl [(h0, .inr (2, [.ref b0, .int 1, .int (-1), .int 0, .int 0, .int 0])), (b0, .inl (k 0, 250, .inl f_3))] H := hP
  have hD : va_D A [(h0, .inr (2, [.ref b0, .int 1, .int (-1), .int 0, .int 0, .int 0])), (b0, .inl (k 0, 250, .inl f_3))] := hD
  refine lv_iinc (v := 0) (lv' := [(3, .int 0), (0, .ref h0), (1, .int v), (2, .int 2)]) hx hb dX4_append_47 hl (k := 0) rfl (by decide) (by decide) rfl (fun ls hl => ?_)
  refine lv_goto (tgt := 4) hx hb dX4_append_50 (by decide) ?_
  refine lv_iload_n hx hb dX4_append_4 rfl (lv_at hl 0 rfl) ?_
  refine lv_if_lt (tgt := 53) hx hb dX4_append_5 (by decide) (fun c_4 => absurd c_4 (by decide)) (fun c_4 => ?_)
  refine lv_aload_n hx hb dX4_append_8 rfl (lv_at hl 1 rfl) ?_
  refine va_get (D := D) (ci := 2) (v := .int 1) (C := RX4) (T := TX4) (N := 6) hx hb hT iw_TX4 hown hK.1 hP 0 rfl rfl 1 (by decide) (hT _ wd_196) (fun _ h9 => h9) rfl dX4_append_9 ?_
  refine lv_sipush (v := 250) hx hb dX4_append_12 (by decide) ?_
  refine lv_icmp_ge (tgt := 53) hx hb dX4_append_15 (by decide) (fun c_5 => absurd c_5 (by decide)) (fun c_5 => ?_)
  refine lv_aload_n hx hb dX4_append_18 rfl (lv_at hl 1 rfl) ?_
  refine va_get (D := D) (ci := 2) (v := .ref b0) (C := RX4) (T := TX4) (N := 6) hx hb hT iw_TX4 hown hK.1 hP 0 rfl rfl 0 (by decide) (hT _ wd_195) (fun _ h9 => h9) rfl dX4_append_19 ?_
  refine lv_aload_n hx hb dX4_append_22 rfl (lv_at hl 1 rfl) ?_
  refine va_get (D := D) (ci := 2) (v := .int 1) (C := RX4) (T := TX4) (N := 6) hx hb hT iw_TX4 hown hK.1 hP 0 rfl rfl 1 (by decide) (hT _ wd_196) (fun _ h9 => h9) rfl dX4_append_23 ?_
  refine lv_iload_n hx hb dX4_append_26 rfl (lv_at hl 2 rfl) ?_
  refine lv_bipush (v := 8) hx hb dX4_append_27 (by decide) ?_
  refine lv_iload_n hx hb dX4_append_29 rfl (lv_at hl 0 rfl) ?_
  refine lv_imul hx hb dX4_append_30 ?_
  refine gx_cst (v := 0) (by decide) ?_
  refine lv_ishr hx hb dX4_append_31 ?_
  refine lv_sipush (v := 255) hx hb dX4_append_32 (by decide) ?_
  refine lv_iand hx hb dX4_append_35 ?_
  refine va_iast hx hb hK.1 hP hD hS 1 0 rfl rfl (gx_vin rfl) dX4_append_36 (fun H locs hP hD hS => ?_)
  obtain ⟨f_6, ef_6⟩ : ∃ f9, f9 = upd f_3 (1 : Int32).toNatClampNeg (((v >>> ((0 : Int32) &&& 31)) &&& (255 : Int32)) : Int32) := ⟨_, rfl⟩
  have hP : va_P D gx_cl [(h0, .inr (2, [.ref b0, .int 1, .int (-1), .int 0, .int 0, .int 0])), (b0, .inl (k 0, 250, .inl f_6))] H := by subst ef_6; exact hP
  have hD : va_D A [(h0, .inr (2, [.ref b0, .int 1, .int (-1), .int 0, .int 0, .int 0])), (b0, .inl (k 0, 250, .inl f_6))] := by subst ef_6; exact hD
  refine lv_aload_n hx hb dX4_append_37 rfl (lv_at hl 1 rfl) ?_
  refine lv_dup hx hb dX4_append_38 rfl ?_
  refine va_get (D := D) (ci := 2) (v := .int 1) (C := RX4) (T := TX4) (N := 6) hx hb hT iw_TX4 hown hK.1 hP 0 rfl rfl 1 (by decide) (hT _ wd_196) (fun _ h9 => h9) rfl dX4_append_39 ?_
  refine lv_iconst (v := 1) hx hb dX4_append_42 (by decide) ?_
  refine lv_iadd hx hb dX4_append_43 ?_
  refine gx_cst (v := 2) (by decide) ?_
  refine va_put (D := D) (ci := 2) (v := .int 2) (ty := .int) (C := RX4) (T := TX4) (N := 6) hx hb hT iw_TX4 tyX4 tyX4_ok nmX4 hown hK.1 hP hD hS 0 rfl rfl 1 (by decide) (hT _ wd_196) (fun _ h9 => h9) rfl (by decide +kernel) rfl rfl (Nat.le_of_ble_eq_true rfl) dX4_append_44 (fun H locs hP hD hS => ?_)
  have hP : va_P D gx_cl [(h0, .inr (2, [.ref b0, .int 2, .int (-1), .int 0, .int 0, .int 0])), (b0, .inl (k 0, 250, .inl f_6))] H := hP
  have hD : va_D A [(h0, .inr (2, [.ref b0, .int 2, .int (-1), .int 0, .int 0, .int 0])), (b0, .inl (k 0, 250, .inl f_6))] := hD
  refine lv_iinc (v := (-1)) (lv' := [(3, .int (-1)), (0, .ref h0), (1, .int v), (2, .int 2)]) hx hb dX4_append_47 hl (k := 0) rfl (by decide) (by decide) rfl (fun ls hl => ?_)
  refine lv_goto (tgt := 4) hx hb dX4_append_50 (by decide) ?_
  refine lv_iload_n hx hb dX4_append_4 rfl (lv_at hl 0 rfl) ?_
  refine lv_if_lt (tgt := 53) hx hb dX4_append_5 (by decide) (fun c_7 => ?_) (fun c_7 => absurd (by decide) c_7)
  have hP9 := gx_subP (wc := ([(h0, .inr (2, [.ref b0, .int 2, .int (-1), .int 0, .int 0, .int 0]))] : va_W)) hP [0] rfl
  have hD9 := hD.sub (ws' := ([(h0, .inr (2, [.ref b0, .int 2, .int (-1), .int 0, .int 0, .int 0]))] : va_W)) [0] (by decide) rfl
  exact gx_retV C (u := ()) hP9 hD9 hS (trivial) dX4_append_53
set_option maxHeartbeats 4000000 in
set_option maxRecDepth 100000 in
theorem k_append3 (l : Launch) (D : va_G) (k : Nat → ClassId) (h0 : Nat) (b0 : Nat) (v : Int32) (sz : Nat) : Met l yX4_append (.code yX4_append cX4_append 4 none :: gx_T) ({ frames := 0, cells := 0, slots := 0, locals := 0 }) (gx_Pre D k [.ref h0, .int v, .int 3] ([(h0, .inr (2, [.ref b0, .int 0, .int (-1), .int 0, .int 0, .int 0])), (b0, .inl (k 0, 250, .inl (fun _ => 0)))]) sz) (gx_Qv D (fun (u : Unit) => True) (fun (u : Unit) => ([(h0, .inr (2, [.ref b0, .int 3, .int (-1), .int 0, .int 0, .int 0]))] : va_W)) (va_A ([(h0, .inr (2, [.ref b0, .int 0, .int (-1), .int 0, .int 0, .int 0])), (b0, .inl (k 0, 250, .inl (fun _ => 0)))]) sz)) 0 0 (va_A ([(h0, .inr (2, [.ref b0, .int 0, .int (-1), .int 0, .int 0, .int 0])), (b0, .inl (k 0, 250, .inl (fun _ => 0)))]) sz) := by
  refine gx_metE (Qc := fun A => gx_Qv D (fun (u : Unit) => True) (fun (u : Unit) => ([(h0, .inr (2, [.ref b0, .int 3, .int (-1), .int 0, .int 0, .int 0]))] : va_W)) A) (by decide) (Nat.le_of_ble_eq_true rfl) ?_
  intro p e s m below meth c A ls C hA hP hD hK hS hl
  obtain ⟨hx, hb, hr, hml, hown, hT, hlk, hin⟩ := id C
  have hown : s.vm.findClass RX4 = some m.cls := hown
  have hl : lv_has ls 4 [(0, .ref h0), (1, .int v), (2, .int 3)] := hl
  refine lv_iload_n hx hb dX4_append_0 rfl (lv_at hl 2 rfl) ?_
  refine lv_iconst (v := 1) hx hb dX4_append_1 (by decide) ?_
  refine lv_isub hx hb dX4_append_2 ?_
  refine gx_cst (v := 2) (by decide) ?_
  refine lv_istore_n (lv' := [(3, .int 2), (0, .ref h0), (1, .int v), (2, .int 3)]) hx hb dX4_append_3 rfl hl (by decide) rfl (fun ls hl => ?_)
  refine lv_iload_n hx hb dX4_append_4 rfl (lv_at hl 0 rfl) ?_
  refine lv_if_lt (tgt := 53) hx hb dX4_append_5 (by decide) (fun c_1 => absurd c_1 (by decide)) (fun c_1 => ?_)
  refine lv_aload_n hx hb dX4_append_8 rfl (lv_at hl 1 rfl) ?_
  refine va_get (D := D) (ci := 2) (v := .int 0) (C := RX4) (T := TX4) (N := 6) hx hb hT iw_TX4 hown hK.1 hP 0 rfl rfl 1 (by decide) (hT _ wd_196) (fun _ h9 => h9) rfl dX4_append_9 ?_
  refine lv_sipush (v := 250) hx hb dX4_append_12 (by decide) ?_
  refine lv_icmp_ge (tgt := 53) hx hb dX4_append_15 (by decide) (fun c_2 => absurd c_2 (by decide)) (fun c_2 => ?_)
  refine lv_aload_n hx hb dX4_append_18 rfl (lv_at hl 1 rfl) ?_
  refine va_get (D := D) (ci := 2) (v := .ref b0) (C := RX4) (T := TX4) (N := 6) hx hb hT iw_TX4 hown hK.1 hP 0 rfl rfl 0 (by decide) (hT _ wd_195) (fun _ h9 => h9) rfl dX4_append_19 ?_
  refine lv_aload_n hx hb dX4_append_22 rfl (lv_at hl 1 rfl) ?_
  refine va_get (D := D) (ci := 2) (v := .int 0) (C := RX4) (T := TX4) (N := 6) hx hb hT iw_TX4 hown hK.1 hP 0 rfl rfl 1 (by decide) (hT _ wd_196) (fun _ h9 => h9) rfl dX4_append_23 ?_
  refine lv_iload_n hx hb dX4_append_26 rfl (lv_at hl 2 rfl) ?_
  refine lv_bipush (v := 8) hx hb dX4_append_27 (by decide) ?_
  refine lv_iload_n hx hb dX4_append_29 rfl (lv_at hl 0 rfl) ?_
  refine lv_imul hx hb dX4_append_30 ?_
  refine gx_cst (v := 16) (by decide) ?_
  refine lv_ishr hx hb dX4_append_31 ?_
  refine lv_sipush (v := 255) hx hb dX4_append_32 (by decide) ?_
  refine lv_iand hx hb dX4_append_35 ?_
  refine va_iast hx hb hK.1 hP hD hS 1 0 rfl rfl (gx_vin rfl) dX4_append_36 (fun H locs hP hD hS => ?_)
  obtain ⟨f_3, ef_3⟩ : ∃ f9, f9 = upd ((fun _ => 0) : Nat → Int32) (0 : Int32).toNatClampNeg (((v >>> ((16 : Int32) &&& 31)) &&& (255 : Int32)) : Int32) := ⟨_, rfl⟩
  have hP : va_P D gx_cl [(h0, .inr (2, [.ref b0, .int 0, .int (-1), .int 0, .int 0, .int 0])), (b0, .inl (k 0, 250, .inl f_3))] H := by subst ef_3; exact hP
  have hD : va_D A [(h0, .inr (2, [.ref b0, .int 0, .int (-1), .int 0, .int 0, .int 0])), (b0, .inl (k 0, 250, .inl f_3))] := by subst ef_3; exact hD
  refine lv_aload_n hx hb dX4_append_37 rfl (lv_at hl 1 rfl) ?_
  refine lv_dup hx hb dX4_append_38 rfl ?_
  refine va_get (D := D) (ci := 2) (v := .int 0) (C := RX4) (T := TX4) (N := 6) hx hb hT iw_TX4 hown hK.1 hP 0 rfl rfl 1 (by decide) (hT _ wd_196) (fun _ h9 => h9) rfl dX4_append_39 ?_
  refine lv_iconst (v := 1) hx hb dX4_append_42 (by decide) ?_
  refine lv_iadd hx hb dX4_append_43 ?_
  refine gx_cst (v := 1) (by decide) ?_
  refine va_put (D := D) (ci := 2) (v := .int 1) (ty := .int) (C := RX4) (T := TX4) (N := 6) hx hb hT iw_TX4 tyX4 tyX4_ok nmX4 hown hK.1 hP hD hS 0 rfl rfl 1 (by decide) (hT _ wd_196) (fun _ h9 => h9) rfl (by decide +kernel) rfl rfl (Nat.le_of_ble_eq_true rfl) dX4_append_44 (fun H locs hP hD hS => ?_)
  have hP : va_P D gx_cl [(h0, .inr (2, [.ref b0, .int 1, .int (-1), .int 0, .int 0, .int 0])), (b0, .inl (k 0, 250, .inl f_3))] H := hP
  have hD : va_D A [(h0, .inr (2, [.ref b0, .int 1, .int (-1), .int 0, .int 0, .int 0])), (b0, .inl (k 0, 250, .inl f_3))] := hD
  refine lv_iinc (v := 1) (lv' := [(3, .int 1), (0, .ref h0), (1, .int v), (2, .int 3)]) hx hb dX4_append_47 hl (k := 0) rfl (by decide) (by decide) rfl (fun ls hl => ?_)
  refine lv_goto (tgt := 4) hx hb dX4_append_50 (by decide) ?_
  refine lv_iload_n hx hb dX4_append_4 rfl (lv_at hl 0 rfl) ?_
  refine lv_if_lt (tgt := 53) hx hb dX4_append_5 (by decide) (fun c_4 => absurd c_4 (by decide)) (fun c_4 => ?_)
  refine lv_aload_n hx hb dX4_append_8 rfl (lv_at hl 1 rfl) ?_
  refine va_get (D := D) (ci := 2) (v := .int 1) (C := RX4) (T := TX4) (N := 6) hx hb hT iw_TX4 hown hK.1 hP 0 rfl rfl 1 (by decide) (hT _ wd_196) (fun _ h9 => h9) rfl dX4_append_9 ?_
  refine lv_sipush (v := 250) hx hb dX4_append_12 (by decide) ?_
  refine lv_icmp_ge (tgt := 53) hx hb dX4_append_15 (by decide) (fun c_5 => absurd c_5 (by decide)) (fun c_5 => ?_)
  refine lv_aload_n hx hb dX4_append_18 rfl (lv_at hl 1 rfl) ?_
  refine va_get (D := D) (ci := 2) (v := .ref b0) (C := RX4) (T := TX4) (N := 6) hx hb hT iw_TX4 hown hK.1 hP 0 rfl rfl 0 (by decide) (hT _ wd_195) (fun _ h9 => h9) rfl dX4_append_19 ?_
  refine lv_aload_n hx hb dX4_append_22 rfl (lv_at hl 1 rfl) ?_
  refine va_get (D := D) (ci := 2) (v := .int 1) (C := RX4) (T := TX4) (N := 6) hx hb hT iw_TX4 hown hK.1 hP 0 rfl rfl 1 (by decide) (hT _ wd_196) (fun _ h9 => h9) rfl dX4_append_23 ?_
  refine lv_iload_n hx hb dX4_append_26 rfl (lv_at hl 2 rfl) ?_
  refine lv_bipush (v := 8) hx hb dX4_append_27 (by decide) ?_
  refine lv_iload_n hx hb dX4_append_29 rfl (lv_at hl 0 rfl) ?_
  refine lv_imul hx hb dX4_append_30 ?_
  refine gx_cst (v := 8) (by decide) ?_
  refine lv_ishr hx hb dX4_append_31 ?_
  refine lv_sipush (v := 255) hx hb dX4_append_32 (by decide) ?_
  refine lv_iand hx hb dX4_append_35 ?_
  refine va_iast hx hb hK.1 hP hD hS 1 0 rfl rfl (gx_vin rfl) dX4_append_36 (fun H locs hP hD hS => ?_)
  obtain ⟨f_6, ef_6⟩ : ∃ f9, f9 = upd f_3 (1 : Int32).toNatClampNeg (((v >>> ((8 : Int32) &&& 31)) &&& (255 : Int32)) : Int32) := ⟨_, rfl⟩
  have hP : va_P D gx_cl [(h0, .inr (2, [.ref b0, .int 1, .int (-1), .int 0, .int 0, .int 0])), (b0, .inl (k 0, 250, .inl f_6))] H := by subst ef_6; exact hP
  have hD : va_D A [(h0, .inr (2, [.ref b0, .int 1, .int (-1), .int 0, .int 0, .int 0])), (b0, .inl (k 0, 250, .inl f_6))] := by subst ef_6; exact hD
  refine lv_aload_n hx hb dX4_append_37 rfl (lv_at hl 1 rfl) ?_
  refine lv_dup hx hb dX4_append_38 rfl ?_
  refine va_get (D := D) (ci := 2) (v := .int 1) (C := RX4) (T := TX4) (N := 6) hx hb hT iw_TX4 hown hK.1 hP 0 rfl rfl 1 (by decide) (hT _ wd_196) (fun _ h9 => h9) rfl dX4_append_39 ?_
  refine lv_iconst (v := 1) hx hb dX4_append_42 (by decide) ?_
  refine lv_iadd hx hb dX4_append_43 ?_
  refine gx_cst (v := 2) (by decide) ?_
  refine va_put (D := D) (ci := 2) (v := .int 2) (ty := .int) (C := RX4) (T := TX4) (N := 6) hx hb hT iw_TX4 tyX4 tyX4_ok nmX4 hown hK.1 hP hD hS 0 rfl rfl 1 (by decide) (hT _ wd_196) (fun _ h9 => h9) rfl (by decide +kernel) rfl rfl (Nat.le_of_ble_eq_true rfl) dX4_append_44 (fun H locs hP hD hS => ?_)
  have hP : va_P D gx_cl [(h0, .inr (2, [.ref b0, .int 2, .int (-1), .int 0, .int 0, .int 0])), (b0, .inl (k 0, 250, .inl f_6))] H := hP
  have hD : va_D A [(h0, .inr (2, [.ref b0, .int 2, .int (-1), .int 0, .int 0, .int 0])), (b0, .inl (k 0, 250, .inl f_6))] := hD
  refine lv_iinc (v := 0) (lv' := [(3, .int 0), (0, .ref h0), (1, .int v), (2, .int 3)]) hx hb dX4_append_47 hl (k := 0) rfl (by decide) (by decide) rfl (fun ls hl => ?_)
  refine lv_goto (tgt := 4) hx hb dX4_append_50 (by decide) ?_
  refine lv_iload_n hx hb dX4_append_4 rfl (lv_at hl 0 rfl) ?_
  refine lv_if_lt (tgt := 53) hx hb dX4_append_5 (by decide) (fun c_7 => absurd c_7 (by decide)) (fun c_7 => ?_)
  refine lv_aload_n hx hb dX4_append_8 rfl (lv_at hl 1 rfl) ?_
  refine va_get (D := D) (ci := 2) (v := .int 2) (C := RX4) (T := TX4) (N := 6) hx hb hT iw_TX4 hown hK.1 hP 0 rfl rfl 1 (by decide) (hT _ wd_196) (fun _ h9 => h9) rfl dX4_append_9 ?_
  refine lv_sipush (v := 250) hx hb dX4_append_12 (by decide) ?_
  refine lv_icmp_ge (tgt := 53) hx hb dX4_append_15 (by decide) (fun c_8 => absurd c_8 (by decide)) (fun c_8 => ?_)
  refine lv_aload_n hx hb dX4_append_18 rfl (lv_at hl 1 rfl) ?_
  refine va_get (D := D) (ci := 2) (v := .ref b0) (C := RX4) (T := TX4) (N := 6) hx hb hT iw_TX4 hown hK.1 hP 0 rfl rfl 0 (by decide) (hT _ wd_195) (fun _ h9 => h9) rfl dX4_append_19 ?_
  refine lv_aload_n hx hb dX4_append_22 rfl (lv_at hl 1 rfl) ?_
  refine va_get (D := D) (ci := 2) (v := .int 2) (C := RX4) (T := TX4) (N := 6) hx hb hT iw_TX4 hown hK.1 hP 0 rfl rfl 1 (by decide) (hT _ wd_196) (fun _ h9 => h9) rfl dX4_append_23 ?_
  refine lv_iload_n hx hb dX4_append_26 rfl (lv_at hl 2 rfl) ?_
  refine lv_bipush (v := 8) hx hb dX4_append_27 (by decide) ?_
  refine lv_iload_n hx hb dX4_append_29 rfl (lv_at hl 0 rfl) ?_
  refine lv_imul hx hb dX4_append_30 ?_
  refine gx_cst (v := 0) (by decide) ?_
  refine lv_ishr hx hb dX4_append_31 ?_
  refine lv_sipush (v := 255) hx hb dX4_append_32 (by decide) ?_
  refine lv_iand hx hb dX4_append_35 ?_
  refine va_iast hx hb hK.1 hP hD hS 1 0 rfl rfl (gx_vin rfl) dX4_append_36 (fun H locs hP hD hS => ?_)
  obtain ⟨f_9, ef_9⟩ : ∃ f9, f9 = upd f_6 (2 : Int32).toNatClampNeg (((v >>> ((0 : Int32) &&& 31)) &&& (255 : Int32)) : Int32) := ⟨_, rfl⟩
  have hP : va_P D gx_cl [(h0, .inr (2, [.ref b0, .int 2, .int (-1), .int 0, .int 0, .int 0])), (b0, .inl (k 0, 250, .inl f_9))] H := by subst ef_9; exact hP
  have hD : va_D A [(h0, .inr (2, [.ref b0, .int 2, .int (-1), .int 0, .int 0, .int 0])), (b0, .inl (k 0, 250, .inl f_9))] := by subst ef_9; exact hD
  refine lv_aload_n hx hb dX4_append_37 rfl (lv_at hl 1 rfl) ?_
  refine lv_dup hx hb dX4_append_38 rfl ?_
  refine va_get (D := D) (ci := 2) (v := .int 2) (C := RX4) (T := TX4) (N := 6) hx hb hT iw_TX4 hown hK.1 hP 0 rfl rfl 1 (by decide) (hT _ wd_196) (fun _ h9 => h9) rfl dX4_append_39 ?_
  refine lv_iconst (v := 1) hx hb dX4_append_42 (by decide) ?_
  refine lv_iadd hx hb dX4_append_43 ?_
  refine gx_cst (v := 3) (by decide) ?_
  refine va_put (D := D) (ci := 2) (v := .int 3) (ty := .int) (C := RX4) (T := TX4) (N := 6) hx hb hT iw_TX4 tyX4 tyX4_ok nmX4 hown hK.1 hP hD hS 0 rfl rfl 1 (by decide) (hT _ wd_196) (fun _ h9 => h9) rfl (by decide +kernel) rfl rfl (Nat.le_of_ble_eq_true rfl) dX4_append_44 (fun H locs hP hD hS => ?_)
  have hP : va_P D gx_cl [(h0, .inr (2, [.ref b0, .int 3, .int (-1), .int 0, .int 0, .int 0])), (b0, .inl (k 0, 250, .inl f_9))] H := hP
  have hD : va_D A [(h0, .inr (2, [.ref b0, .int 3, .int (-1), .int 0, .int 0, .int 0])), (b0, .inl (k 0, 250, .inl f_9))] := hD
  refine lv_iinc (v := (-1)) (lv' := [(3, .int (-1)), (0, .ref h0), (1, .int v), (2, .int 3)]) hx hb dX4_append_47 hl (k := 0) rfl (by decide) (by decide) rfl (fun ls hl => ?_)
  refine lv_goto (tgt := 4) hx hb dX4_append_50 (by decide) ?_
  refine lv_iload_n hx hb dX4_append_4 rfl (lv_at hl 0 rfl) ?_
  refine lv_if_lt (tgt := 53) hx hb dX4_append_5 (by decide) (fun c_10 => ?_) (fun c_10 => absurd (by decide) c_10)
  have hP9 := gx_subP (wc := ([(h0, .inr (2, [.ref b0, .int 3, .int (-1), .int 0, .int 0, .int 0]))] : va_W)) hP [0] rfl
  have hD9 := hD.sub (ws' := ([(h0, .inr (2, [.ref b0, .int 3, .int (-1), .int 0, .int 0, .int 0]))] : va_W)) [0] (by decide) rfl
  exact gx_retV C (u := ()) hP9 hD9 hS (trivial) dX4_append_53
set_option maxHeartbeats 4000000 in
set_option maxRecDepth 100000 in
theorem k_append4 (l : Launch) (D : va_G) (k : Nat → ClassId) (h0 : Nat) (b0 : Nat) (v : Int32) (sz : Nat) : Met l yX4_append (.code yX4_append cX4_append 4 none :: gx_T) ({ frames := 0, cells := 0, slots := 0, locals := 0 }) (gx_Pre D k [.ref h0, .int v, .int 4] ([(h0, .inr (2, [.ref b0, .int 0, .int (-1), .int 0, .int 0, .int 0])), (b0, .inl (k 0, 250, .inl (fun _ => 0)))]) sz) (gx_Qv D (fun (u : Unit) => True) (fun (u : Unit) => ([(h0, .inr (2, [.ref b0, .int 4, .int (-1), .int 0, .int 0, .int 0]))] : va_W)) (va_A ([(h0, .inr (2, [.ref b0, .int 0, .int (-1), .int 0, .int 0, .int 0])), (b0, .inl (k 0, 250, .inl (fun _ => 0)))]) sz)) 0 0 (va_A ([(h0, .inr (2, [.ref b0, .int 0, .int (-1), .int 0, .int 0, .int 0])), (b0, .inl (k 0, 250, .inl (fun _ => 0)))]) sz) := by
  refine gx_metE (Qc := fun A => gx_Qv D (fun (u : Unit) => True) (fun (u : Unit) => ([(h0, .inr (2, [.ref b0, .int 4, .int (-1), .int 0, .int 0, .int 0]))] : va_W)) A) (by decide) (Nat.le_of_ble_eq_true rfl) ?_
  intro p e s m below meth c A ls C hA hP hD hK hS hl
  obtain ⟨hx, hb, hr, hml, hown, hT, hlk, hin⟩ := id C
  have hown : s.vm.findClass RX4 = some m.cls := hown
  have hl : lv_has ls 4 [(0, .ref h0), (1, .int v), (2, .int 4)] := hl
  refine lv_iload_n hx hb dX4_append_0 rfl (lv_at hl 2 rfl) ?_
  refine lv_iconst (v := 1) hx hb dX4_append_1 (by decide) ?_
  refine lv_isub hx hb dX4_append_2 ?_
  refine gx_cst (v := 3) (by decide) ?_
  refine lv_istore_n (lv' := [(3, .int 3), (0, .ref h0), (1, .int v), (2, .int 4)]) hx hb dX4_append_3 rfl hl (by decide) rfl (fun ls hl => ?_)
  refine lv_iload_n hx hb dX4_append_4 rfl (lv_at hl 0 rfl) ?_
  refine lv_if_lt (tgt := 53) hx hb dX4_append_5 (by decide) (fun c_1 => absurd c_1 (by decide)) (fun c_1 => ?_)
  refine lv_aload_n hx hb dX4_append_8 rfl (lv_at hl 1 rfl) ?_
  refine va_get (D := D) (ci := 2) (v := .int 0) (C := RX4) (T := TX4) (N := 6) hx hb hT iw_TX4 hown hK.1 hP 0 rfl rfl 1 (by decide) (hT _ wd_196) (fun _ h9 => h9) rfl dX4_append_9 ?_
  refine lv_sipush (v := 250) hx hb dX4_append_12 (by decide) ?_
  refine lv_icmp_ge (tgt := 53) hx hb dX4_append_15 (by decide) (fun c_2 => absurd c_2 (by decide)) (fun c_2 => ?_)
  refine lv_aload_n hx hb dX4_append_18 rfl (lv_at hl 1 rfl) ?_
  refine va_get (D := D) (ci := 2) (v := .ref b0) (C := RX4) (T := TX4) (N := 6) hx hb hT iw_TX4 hown hK.1 hP 0 rfl rfl 0 (by decide) (hT _ wd_195) (fun _ h9 => h9) rfl dX4_append_19 ?_
  refine lv_aload_n hx hb dX4_append_22 rfl (lv_at hl 1 rfl) ?_
  refine va_get (D := D) (ci := 2) (v := .int 0) (C := RX4) (T := TX4) (N := 6) hx hb hT iw_TX4 hown hK.1 hP 0 rfl rfl 1 (by decide) (hT _ wd_196) (fun _ h9 => h9) rfl dX4_append_23 ?_
  refine lv_iload_n hx hb dX4_append_26 rfl (lv_at hl 2 rfl) ?_
  refine lv_bipush (v := 8) hx hb dX4_append_27 (by decide) ?_
  refine lv_iload_n hx hb dX4_append_29 rfl (lv_at hl 0 rfl) ?_
  refine lv_imul hx hb dX4_append_30 ?_
  refine gx_cst (v := 24) (by decide) ?_
  refine lv_ishr hx hb dX4_append_31 ?_
  refine lv_sipush (v := 255) hx hb dX4_append_32 (by decide) ?_
  refine lv_iand hx hb dX4_append_35 ?_
  refine va_iast hx hb hK.1 hP hD hS 1 0 rfl rfl (gx_vin rfl) dX4_append_36 (fun H locs hP hD hS => ?_)
  obtain ⟨f_3, ef_3⟩ : ∃ f9, f9 = upd ((fun _ => 0) : Nat → Int32) (0 : Int32).toNatClampNeg (((v >>> ((24 : Int32) &&& 31)) &&& (255 : Int32)) : Int32) := ⟨_, rfl⟩
  have hP : va_P D gx_cl [(h0, .inr (2, [.ref b0, .int 0, .int (-1), .int 0, .int 0, .int 0])), (b0, .inl (k 0, 250, .inl f_3))] H := by subst ef_3; exact hP
  have hD : va_D A [(h0, .inr (2, [.ref b0, .int 0, .int (-1), .int 0, .int 0, .int 0])), (b0, .inl (k 0, 250, .inl f_3))] := by subst ef_3; exact hD
  refine lv_aload_n hx hb dX4_append_37 rfl (lv_at hl 1 rfl) ?_
  refine lv_dup hx hb dX4_append_38 rfl ?_
  refine va_get (D := D) (ci := 2) (v := .int 0) (C := RX4) (T := TX4) (N := 6) hx hb hT iw_TX4 hown hK.1 hP 0 rfl rfl 1 (by decide) (hT _ wd_196) (fun _ h9 => h9) rfl dX4_append_39 ?_
  refine lv_iconst (v := 1) hx hb dX4_append_42 (by decide) ?_
  refine lv_iadd hx hb dX4_append_43 ?_
  refine gx_cst (v := 1) (by decide) ?_
  refine va_put (D := D) (ci := 2) (v := .int 1) (ty := .int) (C := RX4) (T := TX4) (N := 6) hx hb hT iw_TX4 tyX4 tyX4_ok nmX4 hown hK.1 hP hD hS 0 rfl rfl 1 (by decide) (hT _ wd_196) (fun _ h9 => h9) rfl (by decide +kernel) rfl rfl (Nat.le_of_ble_eq_true rfl) dX4_append_44 (fun H locs hP hD hS => ?_)
  have hP : va_P D gx_cl [(h0, .inr (2, [.ref b0, .int 1, .int (-1), .int 0, .int 0, .int 0])), (b0, .inl (k 0, 250, .inl f_3))] H := hP
  have hD : va_D A [(h0, .inr (2, [.ref b0, .int 1, .int (-1), .int 0, .int 0, .int 0])), (b0, .inl (k 0, 250, .inl f_3))] := hD
  refine lv_iinc (v := 2) (lv' := [(3, .int 2), (0, .ref h0), (1, .int v), (2, .int 4)]) hx hb dX4_append_47 hl (k := 0) rfl (by decide) (by decide) rfl (fun ls hl => ?_)
  refine lv_goto (tgt := 4) hx hb dX4_append_50 (by decide) ?_
  refine lv_iload_n hx hb dX4_append_4 rfl (lv_at hl 0 rfl) ?_
  refine lv_if_lt (tgt := 53) hx hb dX4_append_5 (by decide) (fun c_4 => absurd c_4 (by decide)) (fun c_4 => ?_)
  refine lv_aload_n hx hb dX4_append_8 rfl (lv_at hl 1 rfl) ?_
  refine va_get (D := D) (ci := 2) (v := .int 1) (C := RX4) (T := TX4) (N := 6) hx hb hT iw_TX4 hown hK.1 hP 0 rfl rfl 1 (by decide) (hT _ wd_196) (fun _ h9 => h9) rfl dX4_append_9 ?_
  refine lv_sipush (v := 250) hx hb dX4_append_12 (by decide) ?_
  refine lv_icmp_ge (tgt := 53) hx hb dX4_append_15 (by decide) (fun c_5 => absurd c_5 (by decide)) (fun c_5 => ?_)
  refine lv_aload_n hx hb dX4_append_18 rfl (lv_at hl 1 rfl) ?_
  refine va_get (D := D) (ci := 2) (v := .ref b0) (C := RX4) (T := TX4) (N := 6) hx hb hT iw_TX4 hown hK.1 hP 0 rfl rfl 0 (by decide) (hT _ wd_195) (fun _ h9 => h9) rfl dX4_append_19 ?_
  refine lv_aload_n hx hb dX4_append_22 rfl (lv_at hl 1 rfl) ?_
  refine va_get (D := D) (ci := 2) (v := .int 1) (C := RX4) (T := TX4) (N := 6) hx hb hT iw_TX4 hown hK.1 hP 0 rfl rfl 1 (by decide) (hT _ wd_196) (fun _ h9 => h9) rfl dX4_append_23 ?_
  refine lv_iload_n hx hb dX4_append_26 rfl (lv_at hl 2 rfl) ?_
  refine lv_bipush (v := 8) hx hb dX4_append_27 (by decide) ?_
  refine lv_iload_n hx hb dX4_append_29 rfl (lv_at hl 0 rfl) ?_
  refine lv_imul hx hb dX4_append_30 ?_
  refine gx_cst (v := 16) (by decide) ?_
  refine lv_ishr hx hb dX4_append_31 ?_
  refine lv_sipush (v := 255) hx hb dX4_append_32 (by decide) ?_
  refine lv_iand hx hb dX4_append_35 ?_
  refine va_iast hx hb hK.1 hP hD hS 1 0 rfl rfl (gx_vin rfl) dX4_append_36 (fun H locs hP hD hS => ?_)
  obtain ⟨f_6, ef_6⟩ : ∃ f9, f9 = upd f_3 (1 : Int32).toNatClampNeg (((v >>> ((16 : Int32) &&& 31)) &&& (255 : Int32)) : Int32) := ⟨_, rfl⟩
  have hP : va_P D gx_cl [(h0, .inr (2, [.ref b0, .int 1, .int (-1), .int 0, .int 0, .int 0])), (b0, .inl (k 0, 250, .inl f_6))] H := by subst ef_6; exact hP
  have hD : va_D A [(h0, .inr (2, [.ref b0, .int 1, .int (-1), .int 0, .int 0, .int 0])), (b0, .inl (k 0, 250, .inl f_6))] := by subst ef_6; exact hD
  refine lv_aload_n hx hb dX4_append_37 rfl (lv_at hl 1 rfl) ?_
  refine lv_dup hx hb dX4_append_38 rfl ?_
  refine va_get (D := D) (ci := 2) (v := .int 1) (C := RX4) (T := TX4) (N := 6) hx hb hT iw_TX4 hown hK.1 hP 0 rfl rfl 1 (by decide) (hT _ wd_196) (fun _ h9 => h9) rfl dX4_append_39 ?_
  refine lv_iconst (v := 1) hx hb dX4_append_42 (by decide) ?_
  refine lv_iadd hx hb dX4_append_43 ?_
  refine gx_cst (v := 2) (by decide) ?_
  refine va_put (D := D) (ci := 2) (v := .int 2) (ty := .int) (C := RX4) (T := TX4) (N := 6) hx hb hT iw_TX4 tyX4 tyX4_ok nmX4 hown hK.1 hP hD hS 0 rfl rfl 1 (by decide) (hT _ wd_196) (fun _ h9 => h9) rfl (by decide +kernel) rfl rfl (Nat.le_of_ble_eq_true rfl) dX4_append_44 (fun H locs hP hD hS => ?_)
  have hP : va_P D gx_cl [(h0, .inr (2, [.ref b0, .int 2, .int (-1), .int 0, .int 0, .int 0])), (b0, .inl (k 0, 250, .inl f_6))] H := hP
  have hD : va_D A [(h0, .inr (2, [.ref b0, .int 2, .int (-1), .int 0, .int 0, .int 0])), (b0, .inl (k 0, 250, .inl f_6))] := hD
  refine lv_iinc (v := 1) (lv' := [(3, .int 1), (0, .ref h0), (1, .int v), (2, .int 4)]) hx hb dX4_append_47 hl (k := 0) rfl (by decide) (by decide) rfl (fun ls hl => ?_)
  refine lv_goto (tgt := 4) hx hb dX4_append_50 (by decide) ?_
  refine lv_iload_n hx hb dX4_append_4 rfl (lv_at hl 0 rfl) ?_
  refine lv_if_lt (tgt := 53) hx hb dX4_append_5 (by decide) (fun c_7 => absurd c_7 (by decide)) (fun c_7 => ?_)
  refine lv_aload_n hx hb dX4_append_8 rfl (lv_at hl 1 rfl) ?_
  refine va_get (D := D) (ci := 2) (v := .int 2) (C := RX4) (T := TX4) (N := 6) hx hb hT iw_TX4 hown hK.1 hP 0 rfl rfl 1 (by decide) (hT _ wd_196) (fun _ h9 => h9) rfl dX4_append_9 ?_
  refine lv_sipush (v := 250) hx hb dX4_append_12 (by decide) ?_
  refine lv_icmp_ge (tgt := 53) hx hb dX4_append_15 (by decide) (fun c_8 => absurd c_8 (by decide)) (fun c_8 => ?_)
  refine lv_aload_n hx hb dX4_append_18 rfl (lv_at hl 1 rfl) ?_
  refine va_get (D := D) (ci := 2) (v := .ref b0) (C := RX4) (T := TX4) (N := 6) hx hb hT iw_TX4 hown hK.1 hP 0 rfl rfl 0 (by decide) (hT _ wd_195) (fun _ h9 => h9) rfl dX4_append_19 ?_
  refine lv_aload_n hx hb dX4_append_22 rfl (lv_at hl 1 rfl) ?_
  refine va_get (D := D) (ci := 2) (v := .int 2) (C := RX4) (T := TX4) (N := 6) hx hb hT iw_TX4 hown hK.1 hP 0 rfl rfl 1 (by decide) (hT _ wd_196) (fun _ h9 => h9) rfl dX4_append_23 ?_
  refine lv_iload_n hx hb dX4_append_26 rfl (lv_at hl 2 rfl) ?_
  refine lv_bipush (v := 8) hx hb dX4_append_27 (by decide) ?_
  refine lv_iload_n hx hb dX4_append_29 rfl (lv_at hl 0 rfl) ?_
  refine lv_imul hx hb dX4_append_30 ?_
  refine gx_cst (v := 8) (by decide) ?_
  refine lv_ishr hx hb dX4_append_31 ?_
  refine lv_sipush (v := 255) hx hb dX4_append_32 (by decide) ?_
  refine lv_iand hx hb dX4_append_35 ?_
  refine va_iast hx hb hK.1 hP hD hS 1 0 rfl rfl (gx_vin rfl) dX4_append_36 (fun H locs hP hD hS => ?_)
  obtain ⟨f_9, ef_9⟩ : ∃ f9, f9 = upd f_6 (2 : Int32).toNatClampNeg (((v >>> ((8 : Int32) &&& 31)) &&& (255 : Int32)) : Int32) := ⟨_, rfl⟩
  have hP : va_P D gx_cl [(h0, .inr (2, [.ref b0, .int 2, .int (-1), .int 0, .int 0, .int 0])), (b0, .inl (k 0, 250, .inl f_9))] H := by subst ef_9; exact hP
  have hD : va_D A [(h0, .inr (2, [.ref b0, .int 2, .int (-1), .int 0, .int 0, .int 0])), (b0, .inl (k 0, 250, .inl f_9))] := by subst ef_9; exact hD
  refine lv_aload_n hx hb dX4_append_37 rfl (lv_at hl 1 rfl) ?_
  refine lv_dup hx hb dX4_append_38 rfl ?_
  refine va_get (D := D) (ci := 2) (v := .int 2) (C := RX4) (T := TX4) (N := 6) hx hb hT iw_TX4 hown hK.1 hP 0 rfl rfl 1 (by decide) (hT _ wd_196) (fun _ h9 => h9) rfl dX4_append_39 ?_
  refine lv_iconst (v := 1) hx hb dX4_append_42 (by decide) ?_
  refine lv_iadd hx hb dX4_append_43 ?_
  refine gx_cst (v := 3) (by decide) ?_
  refine va_put (D := D) (ci := 2) (v := .int 3) (ty := .int) (C := RX4) (T := TX4) (N := 6) hx hb hT iw_TX4 tyX4 tyX4_ok nmX4 hown hK.1 hP hD hS 0 rfl rfl 1 (by decide) (hT _ wd_196) (fun _ h9 => h9) rfl (by decide +kernel) rfl rfl (Nat.le_of_ble_eq_true rfl) dX4_append_44 (fun H locs hP hD hS => ?_)
  have hP : va_P D gx_cl [(h0, .inr (2, [.ref b0, .int 3, .int (-1), .int 0, .int 0, .int 0])), (b0, .inl (k 0, 250, .inl f_9))] H := hP
  have hD : va_D A [(h0, .inr (2, [.ref b0, .int 3, .int (-1), .int 0, .int 0, .int 0])), (b0, .inl (k 0, 250, .inl f_9))] := hD
  refine lv_iinc (v := 0) (lv' := [(3, .int 0), (0, .ref h0), (1, .int v), (2, .int 4)]) hx hb dX4_append_47 hl (k := 0) rfl (by decide) (by decide) rfl (fun ls hl => ?_)
  refine lv_goto (tgt := 4) hx hb dX4_append_50 (by decide) ?_
  refine lv_iload_n hx hb dX4_append_4 rfl (lv_at hl 0 rfl) ?_
  refine lv_if_lt (tgt := 53) hx hb dX4_append_5 (by decide) (fun c_10 => absurd c_10 (by decide)) (fun c_10 => ?_)
  refine lv_aload_n hx hb dX4_append_8 rfl (lv_at hl 1 rfl) ?_
  refine va_get (D := D) (ci := 2) (v := .int 3) (C := RX4) (T := TX4) (N := 6) hx hb hT iw_TX4 hown hK.1 hP 0 rfl rfl 1 (by decide) (hT _ wd_196) (fun _ h9 => h9) rfl dX4_append_9 ?_
  refine lv_sipush (v := 250) hx hb dX4_append_12 (by decide) ?_
  refine lv_icmp_ge (tgt := 53) hx hb dX4_append_15 (by decide) (fun c_11 => absurd c_11 (by decide)) (fun c_11 => ?_)
  refine lv_aload_n hx hb dX4_append_18 rfl (lv_at hl 1 rfl) ?_
  refine va_get (D := D) (ci := 2) (v := .ref b0) (C := RX4) (T := TX4) (N := 6) hx hb hT iw_TX4 hown hK.1 hP 0 rfl rfl 0 (by decide) (hT _ wd_195) (fun _ h9 => h9) rfl dX4_append_19 ?_
  refine lv_aload_n hx hb dX4_append_22 rfl (lv_at hl 1 rfl) ?_
  refine va_get (D := D) (ci := 2) (v := .int 3) (C := RX4) (T := TX4) (N := 6) hx hb hT iw_TX4 hown hK.1 hP 0 rfl rfl 1 (by decide) (hT _ wd_196) (fun _ h9 => h9) rfl dX4_append_23 ?_
  refine lv_iload_n hx hb dX4_append_26 rfl (lv_at hl 2 rfl) ?_
  refine lv_bipush (v := 8) hx hb dX4_append_27 (by decide) ?_
  refine lv_iload_n hx hb dX4_append_29 rfl (lv_at hl 0 rfl) ?_
  refine lv_imul hx hb dX4_append_30 ?_
  refine gx_cst (v := 0) (by decide) ?_
  refine lv_ishr hx hb dX4_append_31 ?_
  refine lv_sipush (v := 255) hx hb dX4_append_32 (by decide) ?_
  refine lv_iand hx hb dX4_append_35 ?_
  refine va_iast hx hb hK.1 hP hD hS 1 0 rfl rfl (gx_vin rfl) dX4_append_36 (fun H locs hP hD hS => ?_)
  obtain ⟨f_12, ef_12⟩ : ∃ f9, f9 = upd f_9 (3 : Int32).toNatClampNeg (((v >>> ((0 : Int32) &&& 31)) &&& (255 : Int32)) : Int32) := ⟨_, rfl⟩
  have hP : va_P D gx_cl [(h0, .inr (2, [.ref b0, .int 3, .int (-1), .int 0, .int 0, .int 0])), (b0, .inl (k 0, 250, .inl f_12))] H := by subst ef_12; exact hP
  have hD : va_D A [(h0, .inr (2, [.ref b0, .int 3, .int (-1), .int 0, .int 0, .int 0])), (b0, .inl (k 0, 250, .inl f_12))] := by subst ef_12; exact hD
  refine lv_aload_n hx hb dX4_append_37 rfl (lv_at hl 1 rfl) ?_
  refine lv_dup hx hb dX4_append_38 rfl ?_
  refine va_get (D := D) (ci := 2) (v := .int 3) (C := RX4) (T := TX4) (N := 6) hx hb hT iw_TX4 hown hK.1 hP 0 rfl rfl 1 (by decide) (hT _ wd_196) (fun _ h9 => h9) rfl dX4_append_39 ?_
  refine lv_iconst (v := 1) hx hb dX4_append_42 (by decide) ?_
  refine lv_iadd hx hb dX4_append_43 ?_
  refine gx_cst (v := 4) (by decide) ?_
  refine va_put (D := D) (ci := 2) (v := .int 4) (ty := .int) (C := RX4) (T := TX4) (N := 6) hx hb hT iw_TX4 tyX4 tyX4_ok nmX4 hown hK.1 hP hD hS 0 rfl rfl 1 (by decide) (hT _ wd_196) (fun _ h9 => h9) rfl (by decide +kernel) rfl rfl (Nat.le_of_ble_eq_true rfl) dX4_append_44 (fun H locs hP hD hS => ?_)
  have hP : va_P D gx_cl [(h0, .inr (2, [.ref b0, .int 4, .int (-1), .int 0, .int 0, .int 0])), (b0, .inl (k 0, 250, .inl f_12))] H := hP
  have hD : va_D A [(h0, .inr (2, [.ref b0, .int 4, .int (-1), .int 0, .int 0, .int 0])), (b0, .inl (k 0, 250, .inl f_12))] := hD
  refine lv_iinc (v := (-1)) (lv' := [(3, .int (-1)), (0, .ref h0), (1, .int v), (2, .int 4)]) hx hb dX4_append_47 hl (k := 0) rfl (by decide) (by decide) rfl (fun ls hl => ?_)
  refine lv_goto (tgt := 4) hx hb dX4_append_50 (by decide) ?_
  refine lv_iload_n hx hb dX4_append_4 rfl (lv_at hl 0 rfl) ?_
  refine lv_if_lt (tgt := 53) hx hb dX4_append_5 (by decide) (fun c_13 => ?_) (fun c_13 => absurd (by decide) c_13)
  have hP9 := gx_subP (wc := ([(h0, .inr (2, [.ref b0, .int 4, .int (-1), .int 0, .int 0, .int 0]))] : va_W)) hP [0] rfl
  have hD9 := hD.sub (ws' := ([(h0, .inr (2, [.ref b0, .int 4, .int (-1), .int 0, .int 0, .int 0]))] : va_W)) [0] (by decide) rfl
  exact gx_retV C (u := ()) hP9 hD9 hS (trivial) dX4_append_53
set_option maxHeartbeats 4000000 in
set_option maxRecDepth 100000 in
theorem k_sortAt (l : Launch) (D : va_G) (k : Nat → ClassId) (h0 : Nat) (b0 : Nat) (sz : Nat) : Met l yX4_sortAt (.code yX4_sortAt cX4_sortAt 3 (some .int) :: gx_T) ({ frames := 0, cells := 0, slots := 0, locals := 0 }) (gx_Pre D k [.ref h0, .int 0] ([(h0, .inr (2, [.ref b0, .int 0, .int (-1), .int 0, .int 0, .int 0]))]) sz) (gx_Pi (fun r => r = 0)) 0 0 gx_No := by
  refine gx_metP (by decide) (Nat.le_of_ble_eq_true rfl) ?_
  intro p e s m below meth c ls C hP hD hK hS hl
  obtain ⟨hx, hb, hr, hml, hown, hT, hlk, hin⟩ := id C
  have hown : s.vm.findClass RX4 = some m.cls := hown
  have hl : lv_has ls 3 [(0, .ref h0), (1, .int 0)] := hl
  refine lv_iload_n hx hb dX4_sortAt_0 rfl (lv_at hl 1 rfl) ?_
  refine lv_if_lt (tgt := 12) hx hb dX4_sortAt_1 (by decide) (fun c_1 => absurd c_1 (by decide)) (fun c_1 => ?_)
  refine lv_iload_n hx hb dX4_sortAt_4 rfl (lv_at hl 1 rfl) ?_
  refine lv_aload_n hx hb dX4_sortAt_5 rfl (lv_at hl 0 rfl) ?_
  refine va_get (D := D) (ci := 2) (v := .int 0) (C := RX4) (T := TX4) (N := 6) hx hb hT iw_TX4 hown hK.1 hP 0 rfl rfl 1 (by decide) (hT _ wd_196) (fun _ h9 => h9) rfl dX4_sortAt_6 ?_
  refine lv_icmp_lt (tgt := 14) hx hb dX4_sortAt_9 (by decide) (fun c_2 => absurd c_2 (by decide)) (fun c_2 => ?_)
  refine lv_iconst (v := 0) hx hb dX4_sortAt_12 (by decide) ?_
  exact gx_retP C hS (rfl) dX4_sortAt_13
set_option maxHeartbeats 4000000 in
set_option maxRecDepth 100000 in
theorem k_advance (l : Launch) (D : va_G) (k : Nat → ClassId) (h0 : Nat) (b0 : Nat) (sz : Nat) : Met l yX4_advance (.code yX4_advance cX4_advance 1 none :: gx_T) ({ frames := 1, cells := 0, slots := 0, locals := 22 }) (gx_Pre D k [.ref h0] ([(h0, .inr (2, [.ref b0, .int 0, .int (-1), .int 0, .int 0, .int 0]))]) sz) (gx_Qv D (fun (u : Unit) => True) (fun (u : Unit) => ([(h0, .inr (2, [.ref b0, .int 0, .int (-1), .int 0, .int 0, .int 0]))] : va_W)) (va_A ([(h0, .inr (2, [.ref b0, .int 0, .int (-1), .int 0, .int 0, .int 0]))]) sz)) 0 0 (va_A ([(h0, .inr (2, [.ref b0, .int 0, .int (-1), .int 0, .int 0, .int 0]))]) sz) := by
  refine gx_metE (Qc := fun A => gx_Qv D (fun (u : Unit) => True) (fun (u : Unit) => ([(h0, .inr (2, [.ref b0, .int 0, .int (-1), .int 0, .int 0, .int 0]))] : va_W)) A) (by decide) (Nat.le_of_ble_eq_true rfl) ?_
  intro p e s m below meth c A ls C hA hP hD hK hS hl
  obtain ⟨hx, hb, hr, hml, hown, hT, hlk, hin⟩ := id C
  have hown : s.vm.findClass RX4 = some m.cls := hown
  have hl : lv_has ls 1 [(0, .ref h0)] := hl
  refine lv_aload_n hx hb dX4_advance_0 rfl (lv_at hl 0 rfl) ?_
  refine lv_aload_n hx hb dX4_advance_1 rfl (lv_at hl 0 rfl) ?_
  refine va_get (D := D) (ci := 2) (v := .int 0) (C := RX4) (T := TX4) (N := 6) hx hb hT iw_TX4 hown hK.1 hP 0 rfl rfl 5 (by decide) (hT _ wd_202) (fun _ h9 => h9) rfl dX4_advance_2 ?_
  refine va_put (D := D) (ci := 2) (v := .int 0) (ty := .int) (C := RX4) (T := TX4) (N := 6) hx hb hT iw_TX4 tyX4 tyX4_ok nmX4 hown hK.1 hP hD hS 0 rfl rfl 4 (by decide) (hT _ wd_201) (fun _ h9 => h9) rfl (by decide +kernel) rfl rfl (Nat.le_of_ble_eq_true rfl) dX4_advance_5 (fun H locs hP hD hS => ?_)
  have hP : va_P D gx_cl [(h0, .inr (2, [.ref b0, .int 0, .int (-1), .int 0, .int 0, .int 0]))] H := hP
  have hD : va_D A [(h0, .inr (2, [.ref b0, .int 0, .int (-1), .int 0, .int 0, .int 0]))] := hD
  refine lv_aload_n hx hb dX4_advance_8 rfl (lv_at hl 0 rfl) ?_
  refine va_get (D := D) (ci := 2) (v := .int 0) (C := RX4) (T := TX4) (N := 6) hx hb hT iw_TX4 hown hK.1 hP 0 rfl rfl 4 (by decide) (hT _ wd_201) (fun _ h9 => h9) rfl dX4_advance_9 ?_
  refine lv_aload_n hx hb dX4_advance_12 rfl (lv_at hl 0 rfl) ?_
  refine va_get (D := D) (ci := 2) (v := .int 0) (C := RX4) (T := TX4) (N := 6) hx hb hT iw_TX4 hown hK.1 hP 0 rfl rfl 1 (by decide) (hT _ wd_196) (fun _ h9 => h9) rfl dX4_advance_13 ?_
  refine lv_icmp_ge (tgt := 46) hx hb dX4_advance_16 (by decide) (fun c_1 => ?_) (fun c_1 => absurd (by decide) c_1)
  refine lv_aload_n hx hb dX4_advance_46 rfl (lv_at hl 0 rfl) ?_
  refine lv_aload_n hx hb dX4_advance_47 rfl (lv_at hl 0 rfl) ?_
  refine va_get (D := D) (ci := 2) (v := .int 0) (C := RX4) (T := TX4) (N := 6) hx hb hT iw_TX4 hown hK.1 hP 0 rfl rfl 4 (by decide) (hT _ wd_201) (fun _ h9 => h9) rfl dX4_advance_48 ?_
  refine va_put (D := D) (ci := 2) (v := .int 0) (ty := .int) (C := RX4) (T := TX4) (N := 6) hx hb hT iw_TX4 tyX4 tyX4_ok nmX4 hown hK.1 hP hD hS 0 rfl rfl 5 (by decide) (hT _ wd_202) (fun _ h9 => h9) rfl (by decide +kernel) rfl rfl (Nat.le_of_ble_eq_true rfl) dX4_advance_51 (fun H locs hP hD hS => ?_)
  have hP : va_P D gx_cl [(h0, .inr (2, [.ref b0, .int 0, .int (-1), .int 0, .int 0, .int 0]))] H := hP
  have hD : va_D A [(h0, .inr (2, [.ref b0, .int 0, .int (-1), .int 0, .int 0, .int 0]))] := hD
  refine lv_aload_n hx hb dX4_advance_54 rfl (lv_at hl 0 rfl) ?_
  refine lv_aload_n hx hb dX4_advance_55 rfl (lv_at hl 0 rfl) ?_
  refine lv_aload_n hx hb dX4_advance_56 rfl (lv_at hl 0 rfl) ?_
  refine va_get (D := D) (ci := 2) (v := .int 0) (C := RX4) (T := TX4) (N := 6) hx hb hT iw_TX4 hown hK.1 hP 0 rfl rfl 4 (by decide) (hT _ wd_201) (fun _ h9 => h9) rfl dX4_advance_57 ?_
  refine gx_pi hP hS (gx_runV (na := 1) (As := [.int 0]) (rest := [.ref h0]) (ci := 2) C hl.1 hK (gx_subP (wc := ([(h0, .inr (2, [.ref b0, .int 0, .int (-1), .int 0, .int 0, .int 0]))] : va_W)) hP [0] rfl) ((hD.sub (ws' := ([(h0, .inr (2, [.ref b0, .int 0, .int (-1), .int 0, .int 0, .int 0]))] : va_W)) [0] (by decide) rfl).weaken (fun _ _ _ _ => trivial)) (k_sortAt l D k h0 b0 _) gV_RX4_124 (by decide +kernel) rfl rfl ⟨Nat.le_of_ble_eq_true rfl, Nat.le_of_ble_eq_true rfl⟩ rfl rfl rfl rfl (Nat.le_of_ble_eq_true rfl) dX4_advance_60 ⟨Nat.le_of_ble_eq_true rfl, Nat.le_of_ble_eq_true rfl⟩) (fun r_3 H locs c_2 hP hS => ?_)
  have c_2 : r_3 = 0 := c_2
  subst c_2
  refine va_put (D := D) (ci := 2) (v := .int 0) (ty := .int) (C := RX4) (T := TX4) (N := 6) hx hb hT iw_TX4 tyX4 tyX4_ok nmX4 hown hK.1 hP hD hS 0 rfl rfl 3 (by decide) (hT _ wd_200) (fun _ h9 => h9) rfl (by decide +kernel) rfl rfl (Nat.le_of_ble_eq_true rfl) dX4_advance_63 (fun H locs hP hD hS => ?_)
  have hP : va_P D gx_cl [(h0, .inr (2, [.ref b0, .int 0, .int (-1), .int 0, .int 0, .int 0]))] H := hP
  have hD : va_D A [(h0, .inr (2, [.ref b0, .int 0, .int (-1), .int 0, .int 0, .int 0]))] := hD
  refine lv_aload_n hx hb dX4_advance_66 rfl (lv_at hl 0 rfl) ?_
  refine va_get (D := D) (ci := 2) (v := .int 0) (C := RX4) (T := TX4) (N := 6) hx hb hT iw_TX4 hown hK.1 hP 0 rfl rfl 3 (by decide) (hT _ wd_200) (fun _ h9 => h9) rfl dX4_advance_67 ?_
  refine lv_iconst (v := 3) hx hb dX4_advance_70 (by decide) ?_
  refine lv_icmp_eq (tgt := 82) hx hb dX4_advance_71 (by decide) (fun c_4 => absurd c_4 (by decide)) (fun c_4 => ?_)
  refine lv_aload_n hx hb dX4_advance_74 rfl (lv_at hl 0 rfl) ?_
  refine va_get (D := D) (ci := 2) (v := .int 0) (C := RX4) (T := TX4) (N := 6) hx hb hT iw_TX4 hown hK.1 hP 0 rfl rfl 3 (by decide) (hT _ wd_200) (fun _ h9 => h9) rfl dX4_advance_75 ?_
  refine lv_iconst (v := 4) hx hb dX4_advance_78 (by decide) ?_
  refine lv_icmp_ne (tgt := 92) hx hb dX4_advance_79 (by decide) (fun c_5 => ?_) (fun c_5 => absurd c_5 (by decide))
  refine lv_aload_n hx hb dX4_advance_92 rfl (lv_at hl 0 rfl) ?_
  refine va_get (D := D) (ci := 2) (v := .int 0) (C := RX4) (T := TX4) (N := 6) hx hb hT iw_TX4 hown hK.1 hP 0 rfl rfl 3 (by decide) (hT _ wd_200) (fun _ h9 => h9) rfl dX4_advance_93 ?_
  refine lv_iconst (v := 1) hx hb dX4_advance_96 (by decide) ?_
  refine lv_icmp_eq (tgt := 108) hx hb dX4_advance_97 (by decide) (fun c_6 => absurd c_6 (by decide)) (fun c_6 => ?_)
  refine lv_aload_n hx hb dX4_advance_100 rfl (lv_at hl 0 rfl) ?_
  refine va_get (D := D) (ci := 2) (v := .int 0) (C := RX4) (T := TX4) (N := 6) hx hb hT iw_TX4 hown hK.1 hP 0 rfl rfl 3 (by decide) (hT _ wd_200) (fun _ h9 => h9) rfl dX4_advance_101 ?_
  refine lv_iconst (v := 2) hx hb dX4_advance_104 (by decide) ?_
  refine lv_icmp_ne (tgt := 147) hx hb dX4_advance_105 (by decide) (fun c_7 => ?_) (fun c_7 => absurd c_7 (by decide))
  have hP9 := gx_subP (wc := ([(h0, .inr (2, [.ref b0, .int 0, .int (-1), .int 0, .int 0, .int 0]))] : va_W)) hP [0] rfl
  have hD9 := hD.sub (ws' := ([(h0, .inr (2, [.ref b0, .int 0, .int (-1), .int 0, .int 0, .int 0]))] : va_W)) [0] (by decide) rfl
  exact gx_retV C (u := ()) hP9 hD9 hS (trivial) dX4_advance_147
set_option maxHeartbeats 4000000 in
set_option maxRecDepth 100000 in
theorem k_takes (l : Launch) (D : va_G) (k : Nat → ClassId) (h0 : Nat) (b0 : Nat) (w : Nat) (sz : Nat) : Met l yX4_takes (.code yX4_takes cX4_takes 4 (some .boolean) :: gx_T) ({ frames := 0, cells := 0, slots := 0, locals := 0 }) (gx_Pre D k [.ref h0, .ref w, .int 1] ([(h0, .inr (2, [.ref b0, .int 0, .int (-1), .int 0, .int 0, .int 0]))]) sz) (gx_Pi (fun r => r = 0)) 0 0 gx_No := by
  refine gx_metP (by decide) (Nat.le_of_ble_eq_true rfl) ?_
  intro p e s m below meth c ls C hP hD hK hS hl
  obtain ⟨hx, hb, hr, hml, hown, hT, hlk, hin⟩ := id C
  have hown : s.vm.findClass RX4 = some m.cls := hown
  have hl : lv_has ls 4 [(0, .ref h0), (1, .ref w), (2, .int 1)] := hl
  refine lv_aload_n hx hb dX4_takes_0 rfl (lv_at hl 0 rfl) ?_
  refine va_get (D := D) (ci := 2) (v := .int (-1)) (C := RX4) (T := TX4) (N := 6) hx hb hT iw_TX4 hown hK.1 hP 0 rfl rfl 2 (by decide) (hT _ wd_198) (fun _ h9 => h9) rfl dX4_takes_1 ?_
  refine lv_iconst (v := (-1)) hx hb dX4_takes_4 (by decide) ?_
  refine lv_icmp_ne (tgt := 36) hx hb dX4_takes_5 (by decide) (fun c_1 => absurd (by decide) c_1) (fun c_1 => ?_)
  refine lv_iload_n hx hb dX4_takes_8 rfl (lv_at hl 2 rfl) ?_
  refine lv_if_eq (tgt := 36) hx hb dX4_takes_9 (by decide) (fun c_2 => absurd c_2 (by decide)) (fun c_2 => ?_)
  refine lv_aload_n hx hb dX4_takes_12 rfl (lv_at hl 0 rfl) ?_
  refine va_get (D := D) (ci := 2) (v := .int 0) (C := RX4) (T := TX4) (N := 6) hx hb hT iw_TX4 hown hK.1 hP 0 rfl rfl 3 (by decide) (hT _ wd_200) (fun _ h9 => h9) rfl dX4_takes_13 ?_
  refine lv_iconst (v := 1) hx hb dX4_takes_16 (by decide) ?_
  refine lv_icmp_ne (tgt := 36) hx hb dX4_takes_17 (by decide) (fun c_3 => ?_) (fun c_3 => absurd c_3 (by decide))
  refine lv_iconst (v := 0) hx hb dX4_takes_36 (by decide) ?_
  exact gx_retPZ C hS rfl (rfl) dX4_takes_37
set_option maxHeartbeats 4000000 in
set_option maxRecDepth 100000 in
theorem k_stopHere (l : Launch) (D : va_G) (k : Nat → ClassId) (h0 : Nat) (b0 : Nat) (sz : Nat) : Met l yX4_stopHere (.code yX4_stopHere cX4_stopHere 1 none :: gx_T) ({ frames := 0, cells := 0, slots := 0, locals := 0 }) (gx_Pre D k [.ref h0] ([(h0, .inr (2, [.ref b0, .int 0, .int (-1), .int 0, .int 0, .int 0]))]) sz) (gx_Qv D (fun (u : Unit) => True) (fun (u : Unit) => ([(h0, .inr (2, [.ref b0, .int 0, .int 0, .int 0, .int 0, .int 0]))] : va_W)) (va_A ([(h0, .inr (2, [.ref b0, .int 0, .int (-1), .int 0, .int 0, .int 0]))]) sz)) 0 0 (va_A ([(h0, .inr (2, [.ref b0, .int 0, .int (-1), .int 0, .int 0, .int 0]))]) sz) := by
  refine gx_metE (Qc := fun A => gx_Qv D (fun (u : Unit) => True) (fun (u : Unit) => ([(h0, .inr (2, [.ref b0, .int 0, .int 0, .int 0, .int 0, .int 0]))] : va_W)) A) (by decide) (Nat.le_of_ble_eq_true rfl) ?_
  intro p e s m below meth c A ls C hA hP hD hK hS hl
  obtain ⟨hx, hb, hr, hml, hown, hT, hlk, hin⟩ := id C
  have hown : s.vm.findClass RX4 = some m.cls := hown
  have hl : lv_has ls 1 [(0, .ref h0)] := hl
  refine lv_aload_n hx hb dX4_stopHere_0 rfl (lv_at hl 0 rfl) ?_
  refine va_get (D := D) (ci := 2) (v := .int (-1)) (C := RX4) (T := TX4) (N := 6) hx hb hT iw_TX4 hown hK.1 hP 0 rfl rfl 2 (by decide) (hT _ wd_198) (fun _ h9 => h9) rfl dX4_stopHere_1 ?_
  refine lv_iconst (v := (-1)) hx hb dX4_stopHere_4 (by decide) ?_
  refine lv_icmp_ne (tgt := 16) hx hb dX4_stopHere_5 (by decide) (fun c_1 => absurd (by decide) c_1) (fun c_1 => ?_)
  refine lv_aload_n hx hb dX4_stopHere_8 rfl (lv_at hl 0 rfl) ?_
  refine lv_aload_n hx hb dX4_stopHere_9 rfl (lv_at hl 0 rfl) ?_
  refine va_get (D := D) (ci := 2) (v := .int 0) (C := RX4) (T := TX4) (N := 6) hx hb hT iw_TX4 hown hK.1 hP 0 rfl rfl 4 (by decide) (hT _ wd_201) (fun _ h9 => h9) rfl dX4_stopHere_10 ?_
  refine va_put (D := D) (ci := 2) (v := .int 0) (ty := .int) (C := RX4) (T := TX4) (N := 6) hx hb hT iw_TX4 tyX4 tyX4_ok nmX4 hown hK.1 hP hD hS 0 rfl rfl 2 (by decide) (hT _ wd_198) (fun _ h9 => h9) rfl (by decide +kernel) rfl rfl (Nat.le_of_ble_eq_true rfl) dX4_stopHere_13 (fun H locs hP hD hS => ?_)
  have hP : va_P D gx_cl [(h0, .inr (2, [.ref b0, .int 0, .int 0, .int 0, .int 0, .int 0]))] H := hP
  have hD : va_D A [(h0, .inr (2, [.ref b0, .int 0, .int 0, .int 0, .int 0, .int 0]))] := hD
  have hP9 := gx_subP (wc := ([(h0, .inr (2, [.ref b0, .int 0, .int 0, .int 0, .int 0, .int 0]))] : va_W)) hP [0] rfl
  have hD9 := hD.sub (ws' := ([(h0, .inr (2, [.ref b0, .int 0, .int 0, .int 0, .int 0, .int 0]))] : va_W)) [0] (by decide) rfl
  exact gx_retV C (u := ()) hP9 hD9 hS (trivial) dX4_stopHere_16
set_option maxHeartbeats 4000000 in
set_option maxRecDepth 100000 in
theorem k_readStatement (l : Launch) (D : va_G) (k : Nat → ClassId) (h0 : Nat) (b0 : Nat) (h1 : Nat) (a0 : Nat) (a1 : Nat) (a2 : Nat) (a3 : Nat) (a4 : Nat) (a5 : Nat) (a6 : Nat) (a7 : Nat) (a8 : Nat) (sz : Nat) : Met l yX4_readStatement (.code yX4_readStatement cX4_readStatement 2 none :: gx_T) ({ frames := 1, cells := 0, slots := 0, locals := 23 }) (gx_Pre D k [.ref h0, .ref h1] ([(h0, .inr (2, [.ref b0, .int 0, .int (-1), .int 0, .int 0, .int 0])), (h1, .inr (0, [.ref a0, .ref a1, .ref a2, .ref a3, .ref a4, .ref a5, .ref a6, .ref a7, .ref a8, .int 0, .int 0, .int 0, .int 0, .int 1, .int 0, .int 0, .int 0]))]) sz) (gx_Qv D (fun (u : Unit) => True) (fun (u : Unit) => ([(h0, .inr (2, [.ref b0, .int 0, .int 0, .int 0, .int 0, .int 0]))] : va_W)) (va_A ([(h0, .inr (2, [.ref b0, .int 0, .int (-1), .int 0, .int 0, .int 0])), (h1, .inr (0, [.ref a0, .ref a1, .ref a2, .ref a3, .ref a4, .ref a5, .ref a6, .ref a7, .ref a8, .int 0, .int 0, .int 0, .int 0, .int 1, .int 0, .int 0, .int 0]))]) sz)) 0 0 (va_A ([(h0, .inr (2, [.ref b0, .int 0, .int (-1), .int 0, .int 0, .int 0])), (h1, .inr (0, [.ref a0, .ref a1, .ref a2, .ref a3, .ref a4, .ref a5, .ref a6, .ref a7, .ref a8, .int 0, .int 0, .int 0, .int 0, .int 1, .int 0, .int 0, .int 0]))]) sz) := by
  refine gx_metE (Qc := fun A => gx_Qv D (fun (u : Unit) => True) (fun (u : Unit) => ([(h0, .inr (2, [.ref b0, .int 0, .int 0, .int 0, .int 0, .int 0]))] : va_W)) A) (by decide) (Nat.le_of_ble_eq_true rfl) ?_
  intro p e s m below meth c A ls C hA hP hD hK hS hl
  obtain ⟨hx, hb, hr, hml, hown, hT, hlk, hin⟩ := id C
  have hown : s.vm.findClass RX4 = some m.cls := hown
  have hl : lv_has ls 2 [(0, .ref h0), (1, .ref h1)] := hl
  refine lv_aload_n hx hb dX4_readStatement_0 rfl (lv_at hl 0 rfl) ?_
  obtain ⟨str_1, hstr_1⟩ := hK.2.2.2.2.2.2.2 (RX4, 38, "road") (List.mem_of_getElem? (i := 0) rfl)
  refine va_ldcS hx hb hown hstr_1 dX4_readStatement_1 ?_
  refine lv_aload_n hx hb dX4_readStatement_3 rfl (lv_at hl 1 rfl) ?_
  refine va_get (D := D) (ci := 0) (v := .int 0) (C := RX1) (T := TX1) (N := 17) hx hb hT iw_TX1 hown hK.1 hP 1 rfl rfl 9 (by decide) (hT _ wd_133) (fun _ h9 => h9) rfl dX4_readStatement_4 ?_
  refine lv_bipush (v := 16) hx hb dX4_readStatement_7 (by decide) ?_
  refine lv_icmp_ge (tgt := 16) hx hb dX4_readStatement_9 (by decide) (fun c_2 => absurd c_2 (by decide)) (fun c_2 => ?_)
  refine lv_iconst (v := 1) hx hb dX4_readStatement_12 (by decide) ?_
  refine lv_goto (tgt := 17) hx hb dX4_readStatement_13 (by decide) ?_
  refine gx_pi hP hS (gx_runV (na := 2) (As := [.ref str_1, .int 1]) (rest := []) (ci := 2) C hl.1 hK (gx_subP (wc := ([(h0, .inr (2, [.ref b0, .int 0, .int (-1), .int 0, .int 0, .int 0]))] : va_W)) hP [0] rfl) ((hD.sub (ws' := ([(h0, .inr (2, [.ref b0, .int 0, .int (-1), .int 0, .int 0, .int 0]))] : va_W)) [0] (by decide) rfl).weaken (fun _ _ _ _ => trivial)) (k_takes l D k h0 b0 str_1 _) gV_RX4_45 (by decide +kernel) rfl rfl ⟨Nat.le_of_ble_eq_true rfl, Nat.le_of_ble_eq_true rfl⟩ rfl rfl rfl rfl (Nat.le_of_ble_eq_true rfl) dX4_readStatement_17 ⟨Nat.le_of_ble_eq_true rfl, Nat.le_of_ble_eq_true rfl⟩) (fun r_4 H locs c_3 hP hS => ?_)
  have c_3 : r_4 = 0 := c_3
  subst c_3
  refine lv_if_eq (tgt := 31) hx hb dX4_readStatement_20 (by decide) (fun c_5 => ?_) (fun c_5 => absurd (by decide) c_5)
  refine lv_aload_n hx hb dX4_readStatement_31 rfl (lv_at hl 0 rfl) ?_
  obtain ⟨str_6, hstr_6⟩ := hK.2.2.2.2.2.2.2 (RX4, 52, "one") (List.mem_of_getElem? (i := 1) rfl)
  refine va_ldcS hx hb hown hstr_6 dX4_readStatement_32 ?_
  refine lv_aload_n hx hb dX4_readStatement_34 rfl (lv_at hl 1 rfl) ?_
  refine va_get (D := D) (ci := 0) (v := .int 0) (C := RX1) (T := TX1) (N := 17) hx hb hT iw_TX1 hown hK.1 hP 1 rfl rfl 10 (by decide) (hT _ wd_137) (fun _ h9 => h9) rfl dX4_readStatement_35 ?_
  refine lv_bipush (v := 6) hx hb dX4_readStatement_38 (by decide) ?_
  refine lv_icmp_ge (tgt := 47) hx hb dX4_readStatement_40 (by decide) (fun c_7 => absurd c_7 (by decide)) (fun c_7 => ?_)
  refine lv_iconst (v := 1) hx hb dX4_readStatement_43 (by decide) ?_
  refine lv_goto (tgt := 48) hx hb dX4_readStatement_44 (by decide) ?_
  refine gx_pi hP hS (gx_runV (na := 2) (As := [.ref str_6, .int 1]) (rest := []) (ci := 2) C hl.1 hK (gx_subP (wc := ([(h0, .inr (2, [.ref b0, .int 0, .int (-1), .int 0, .int 0, .int 0]))] : va_W)) hP [0] rfl) ((hD.sub (ws' := ([(h0, .inr (2, [.ref b0, .int 0, .int (-1), .int 0, .int 0, .int 0]))] : va_W)) [0] (by decide) rfl).weaken (fun _ _ _ _ => trivial)) (k_takes l D k h0 b0 str_6 _) gV_RX4_45 (by decide +kernel) rfl rfl ⟨Nat.le_of_ble_eq_true rfl, Nat.le_of_ble_eq_true rfl⟩ rfl rfl rfl rfl (Nat.le_of_ble_eq_true rfl) dX4_readStatement_48 ⟨Nat.le_of_ble_eq_true rfl, Nat.le_of_ble_eq_true rfl⟩) (fun r_9 H locs c_8 hP hS => ?_)
  have c_8 : r_9 = 0 := c_8
  subst c_8
  refine lv_if_eq (tgt := 62) hx hb dX4_readStatement_51 (by decide) (fun c_10 => ?_) (fun c_10 => absurd (by decide) c_10)
  refine lv_aload_n hx hb dX4_readStatement_62 rfl (lv_at hl 0 rfl) ?_
  obtain ⟨str_11, hstr_11⟩ := hK.2.2.2.2.2.2.2 (RX4, 60, "gone") (List.mem_of_getElem? (i := 2) rfl)
  refine va_ldcS hx hb hown hstr_11 dX4_readStatement_63 ?_
  refine lv_iconst (v := 1) hx hb dX4_readStatement_65 (by decide) ?_
  refine gx_pi hP hS (gx_runV (na := 2) (As := [.ref str_11, .int 1]) (rest := []) (ci := 2) C hl.1 hK (gx_subP (wc := ([(h0, .inr (2, [.ref b0, .int 0, .int (-1), .int 0, .int 0, .int 0]))] : va_W)) hP [0] rfl) ((hD.sub (ws' := ([(h0, .inr (2, [.ref b0, .int 0, .int (-1), .int 0, .int 0, .int 0]))] : va_W)) [0] (by decide) rfl).weaken (fun _ _ _ _ => trivial)) (k_takes l D k h0 b0 str_11 _) gV_RX4_45 (by decide +kernel) rfl rfl ⟨Nat.le_of_ble_eq_true rfl, Nat.le_of_ble_eq_true rfl⟩ rfl rfl rfl rfl (Nat.le_of_ble_eq_true rfl) dX4_readStatement_66 ⟨Nat.le_of_ble_eq_true rfl, Nat.le_of_ble_eq_true rfl⟩) (fun r_13 H locs c_12 hP hS => ?_)
  have c_12 : r_13 = 0 := c_12
  subst c_12
  refine lv_if_eq (tgt := 80) hx hb dX4_readStatement_69 (by decide) (fun c_14 => ?_) (fun c_14 => absurd (by decide) c_14)
  refine lv_aload_n hx hb dX4_readStatement_80 rfl (lv_at hl 0 rfl) ?_
  obtain ⟨str_15, hstr_15⟩ := hK.2.2.2.2.2.2.2 (RX4, 65, "at") (List.mem_of_getElem? (i := 3) rfl)
  refine va_ldcS hx hb hown hstr_15 dX4_readStatement_81 ?_
  refine lv_iconst (v := 1) hx hb dX4_readStatement_83 (by decide) ?_
  refine gx_pi hP hS (gx_runV (na := 2) (As := [.ref str_15, .int 1]) (rest := []) (ci := 2) C hl.1 hK (gx_subP (wc := ([(h0, .inr (2, [.ref b0, .int 0, .int (-1), .int 0, .int 0, .int 0]))] : va_W)) hP [0] rfl) ((hD.sub (ws' := ([(h0, .inr (2, [.ref b0, .int 0, .int (-1), .int 0, .int 0, .int 0]))] : va_W)) [0] (by decide) rfl).weaken (fun _ _ _ _ => trivial)) (k_takes l D k h0 b0 str_15 _) gV_RX4_45 (by decide +kernel) rfl rfl ⟨Nat.le_of_ble_eq_true rfl, Nat.le_of_ble_eq_true rfl⟩ rfl rfl rfl rfl (Nat.le_of_ble_eq_true rfl) dX4_readStatement_84 ⟨Nat.le_of_ble_eq_true rfl, Nat.le_of_ble_eq_true rfl⟩) (fun r_17 H locs c_16 hP hS => ?_)
  have c_16 : r_17 = 0 := c_16
  subst c_16
  refine lv_if_eq (tgt := 98) hx hb dX4_readStatement_87 (by decide) (fun c_18 => ?_) (fun c_18 => absurd (by decide) c_18)
  refine lv_aload_n hx hb dX4_readStatement_98 rfl (lv_at hl 0 rfl) ?_
  obtain ⟨str_19, hstr_19⟩ := hK.2.2.2.2.2.2.2 (RX4, 70, "anew") (List.mem_of_getElem? (i := 4) rfl)
  refine va_ldcS hx hb hown hstr_19 dX4_readStatement_99 ?_
  refine lv_iconst (v := 1) hx hb dX4_readStatement_101 (by decide) ?_
  refine gx_pi hP hS (gx_runV (na := 2) (As := [.ref str_19, .int 1]) (rest := []) (ci := 2) C hl.1 hK (gx_subP (wc := ([(h0, .inr (2, [.ref b0, .int 0, .int (-1), .int 0, .int 0, .int 0]))] : va_W)) hP [0] rfl) ((hD.sub (ws' := ([(h0, .inr (2, [.ref b0, .int 0, .int (-1), .int 0, .int 0, .int 0]))] : va_W)) [0] (by decide) rfl).weaken (fun _ _ _ _ => trivial)) (k_takes l D k h0 b0 str_19 _) gV_RX4_45 (by decide +kernel) rfl rfl ⟨Nat.le_of_ble_eq_true rfl, Nat.le_of_ble_eq_true rfl⟩ rfl rfl rfl rfl (Nat.le_of_ble_eq_true rfl) dX4_readStatement_102 ⟨Nat.le_of_ble_eq_true rfl, Nat.le_of_ble_eq_true rfl⟩) (fun r_21 H locs c_20 hP hS => ?_)
  have c_20 : r_21 = 0 := c_20
  subst c_20
  refine lv_if_eq (tgt := 116) hx hb dX4_readStatement_105 (by decide) (fun c_22 => ?_) (fun c_22 => absurd (by decide) c_22)
  refine lv_aload_n hx hb dX4_readStatement_116 rfl (lv_at hl 0 rfl) ?_
  obtain ⟨str_23, hstr_23⟩ := hK.2.2.2.2.2.2.2 (RX4, 75, "shut") (List.mem_of_getElem? (i := 5) rfl)
  refine va_ldcS hx hb hown hstr_23 dX4_readStatement_117 ?_
  refine lv_iconst (v := 1) hx hb dX4_readStatement_119 (by decide) ?_
  refine gx_pi hP hS (gx_runV (na := 2) (As := [.ref str_23, .int 1]) (rest := []) (ci := 2) C hl.1 hK (gx_subP (wc := ([(h0, .inr (2, [.ref b0, .int 0, .int (-1), .int 0, .int 0, .int 0]))] : va_W)) hP [0] rfl) ((hD.sub (ws' := ([(h0, .inr (2, [.ref b0, .int 0, .int (-1), .int 0, .int 0, .int 0]))] : va_W)) [0] (by decide) rfl).weaken (fun _ _ _ _ => trivial)) (k_takes l D k h0 b0 str_23 _) gV_RX4_45 (by decide +kernel) rfl rfl ⟨Nat.le_of_ble_eq_true rfl, Nat.le_of_ble_eq_true rfl⟩ rfl rfl rfl rfl (Nat.le_of_ble_eq_true rfl) dX4_readStatement_120 ⟨Nat.le_of_ble_eq_true rfl, Nat.le_of_ble_eq_true rfl⟩) (fun r_25 H locs c_24 hP hS => ?_)
  have c_24 : r_25 = 0 := c_24
  subst c_24
  refine lv_if_eq (tgt := 134) hx hb dX4_readStatement_123 (by decide) (fun c_26 => ?_) (fun c_26 => absurd (by decide) c_26)
  refine lv_aload_n hx hb dX4_readStatement_134 rfl (lv_at hl 0 rfl) ?_
  refine gx_ev (wc := ([(h0, .inr (2, [.ref b0, .int 0, .int (-1), .int 0, .int 0, .int 0]))] : va_W)) (wr := [(h1, .inr (0, [.ref a0, .ref a1, .ref a2, .ref a3, .ref a4, .ref a5, .ref a6, .ref a7, .ref a8, .int 0, .int 0, .int 0, .int 0, .int 1, .int 0, .int 0, .int 0]))]) (isC := [0]) (isR := [1]) hP hD hS hA rfl rfl (by decide) (by decide) (gx_runV (na := 0) (As := []) (rest := []) (ci := 2) C hl.1 hK (gx_subP (wc := ([(h0, .inr (2, [.ref b0, .int 0, .int (-1), .int 0, .int 0, .int 0]))] : va_W)) hP [0] rfl) ((hD.sub (ws' := ([(h0, .inr (2, [.ref b0, .int 0, .int (-1), .int 0, .int 0, .int 0]))] : va_W)) [0] (by decide) rfl).weaken (fun _ _ _ _ => trivial)) (k_stopHere l D k h0 b0 _) gV_RX4_35 (by decide +kernel) rfl rfl ⟨Nat.le_of_ble_eq_true rfl, Nat.le_of_ble_eq_true rfl⟩ rfl rfl rfl rfl (Nat.le_of_ble_eq_true rfl) dX4_readStatement_135 ⟨Nat.le_of_ble_eq_true rfl, Nat.le_of_ble_eq_true rfl⟩) (fun u_27 H locs h_28 hP hD hS => ?_)
  have hP : va_P D gx_cl [(h1, .inr (0, [.ref a0, .ref a1, .ref a2, .ref a3, .ref a4, .ref a5, .ref a6, .ref a7, .ref a8, .int 0, .int 0, .int 0, .int 0, .int 1, .int 0, .int 0, .int 0])), (h0, .inr (2, [.ref b0, .int 0, .int 0, .int 0, .int 0, .int 0]))] H := hP
  have hD : va_D A [(h1, .inr (0, [.ref a0, .ref a1, .ref a2, .ref a3, .ref a4, .ref a5, .ref a6, .ref a7, .ref a8, .int 0, .int 0, .int 0, .int 0, .int 1, .int 0, .int 0, .int 0])), (h0, .inr (2, [.ref b0, .int 0, .int 0, .int 0, .int 0, .int 0]))] := hD
  have hP9 := gx_subP (wc := ([(h0, .inr (2, [.ref b0, .int 0, .int 0, .int 0, .int 0, .int 0]))] : va_W)) hP [1] rfl
  have hD9 := hD.sub (ws' := ([(h0, .inr (2, [.ref b0, .int 0, .int 0, .int 0, .int 0, .int 0]))] : va_W)) [1] (by decide) rfl
  exact gx_retV C (u := ()) hP9 hD9 hS (trivial) dX4_readStatement_138
set_option maxHeartbeats 4000000 in
set_option maxRecDepth 100000 in
theorem k_readOnto (l : Launch) (D : va_G) (k : Nat → ClassId) (h0 : Nat) (b0 : Nat) (h1 : Nat) (a0 : Nat) (a1 : Nat) (a2 : Nat) (a3 : Nat) (a4 : Nat) (a5 : Nat) (a6 : Nat) (a7 : Nat) (a8 : Nat) (sz : Nat) : Met l yX4_readOnto (.code yX4_readOnto cX4_readOnto 5 (some .int) :: gx_T) ({ frames := 2, cells := 0, slots := 0, locals := 44 }) (gx_Pre D k [.ref h0, .ref h1] ([(h0, .inr (2, [.ref b0, .int 0, .int (-1), .int 0, .int 0, .int 0])), (h1, .inr (0, [.ref a0, .ref a1, .ref a2, .ref a3, .ref a4, .ref a5, .ref a6, .ref a7, .ref a8, .int 0, .int 0, .int 0, .int 0, .int 1, .int 0, .int 0, .int 0]))]) sz) (gx_Qi D (fun (r : Int32) (u : Unit) => r = 1) (fun (u : Unit) => ([(h0, .inr (2, [.ref b0, .int 0, .int 0, .int 0, .int 0, .int 0]))] : va_W)) (va_A ([(h0, .inr (2, [.ref b0, .int 0, .int (-1), .int 0, .int 0, .int 0])), (h1, .inr (0, [.ref a0, .ref a1, .ref a2, .ref a3, .ref a4, .ref a5, .ref a6, .ref a7, .ref a8, .int 0, .int 0, .int 0, .int 0, .int 1, .int 0, .int 0, .int 0]))]) sz)) 0 0 (va_A ([(h0, .inr (2, [.ref b0, .int 0, .int (-1), .int 0, .int 0, .int 0])), (h1, .inr (0, [.ref a0, .ref a1, .ref a2, .ref a3, .ref a4, .ref a5, .ref a6, .ref a7, .ref a8, .int 0, .int 0, .int 0, .int 0, .int 1, .int 0, .int 0, .int 0]))]) sz) := by
  refine gx_metE (Qc := fun A => gx_Qi D (fun (r : Int32) (u : Unit) => r = 1) (fun (u : Unit) => ([(h0, .inr (2, [.ref b0, .int 0, .int 0, .int 0, .int 0, .int 0]))] : va_W)) A) (by decide) (Nat.le_of_ble_eq_true rfl) ?_
  intro p e s m below meth c A ls C hA hP hD hK hS hl
  obtain ⟨hx, hb, hr, hml, hown, hT, hlk, hin⟩ := id C
  have hown : s.vm.findClass RX4 = some m.cls := hown
  have hl : lv_has ls 5 [(0, .ref h0), (1, .ref h1)] := hl
  refine lv_aload_n hx hb dX4_readOnto_0 rfl (lv_at hl 0 rfl) ?_
  refine lv_iconst (v := (-1)) hx hb dX4_readOnto_1 (by decide) ?_
  refine va_put (D := D) (ci := 2) (v := .int (-1)) (ty := .int) (C := RX4) (T := TX4) (N := 6) hx hb hT iw_TX4 tyX4 tyX4_ok nmX4 hown hK.1 hP hD hS 0 rfl rfl 2 (by decide) (hT _ wd_198) (fun _ h9 => h9) rfl (by decide +kernel) rfl rfl (Nat.le_of_ble_eq_true rfl) dX4_readOnto_2 (fun H locs hP hD hS => ?_)
  have hP : va_P D gx_cl [(h0, .inr (2, [.ref b0, .int 0, .int (-1), .int 0, .int 0, .int 0])), (h1, .inr (0, [.ref a0, .ref a1, .ref a2, .ref a3, .ref a4, .ref a5, .ref a6, .ref a7, .ref a8, .int 0, .int 0, .int 0, .int 0, .int 1, .int 0, .int 0, .int 0]))] H := hP
  have hD : va_D A [(h0, .inr (2, [.ref b0, .int 0, .int (-1), .int 0, .int 0, .int 0])), (h1, .inr (0, [.ref a0, .ref a1, .ref a2, .ref a3, .ref a4, .ref a5, .ref a6, .ref a7, .ref a8, .int 0, .int 0, .int 0, .int 0, .int 1, .int 0, .int 0, .int 0]))] := hD
  refine lv_aload_n hx hb dX4_readOnto_5 rfl (lv_at hl 0 rfl) ?_
  refine lv_iconst (v := 0) hx hb dX4_readOnto_6 (by decide) ?_
  refine va_put (D := D) (ci := 2) (v := .int 0) (ty := .int) (C := RX4) (T := TX4) (N := 6) hx hb hT iw_TX4 tyX4 tyX4_ok nmX4 hown hK.1 hP hD hS 0 rfl rfl 5 (by decide) (hT _ wd_202) (fun _ h9 => h9) rfl (by decide +kernel) rfl rfl (Nat.le_of_ble_eq_true rfl) dX4_readOnto_7 (fun H locs hP hD hS => ?_)
  have hP : va_P D gx_cl [(h0, .inr (2, [.ref b0, .int 0, .int (-1), .int 0, .int 0, .int 0])), (h1, .inr (0, [.ref a0, .ref a1, .ref a2, .ref a3, .ref a4, .ref a5, .ref a6, .ref a7, .ref a8, .int 0, .int 0, .int 0, .int 0, .int 1, .int 0, .int 0, .int 0]))] H := hP
  have hD : va_D A [(h0, .inr (2, [.ref b0, .int 0, .int (-1), .int 0, .int 0, .int 0])), (h1, .inr (0, [.ref a0, .ref a1, .ref a2, .ref a3, .ref a4, .ref a5, .ref a6, .ref a7, .ref a8, .int 0, .int 0, .int 0, .int 0, .int 1, .int 0, .int 0, .int 0]))] := hD
  refine lv_aload_n hx hb dX4_readOnto_10 rfl (lv_at hl 0 rfl) ?_
  refine gx_ev (wc := ([(h0, .inr (2, [.ref b0, .int 0, .int (-1), .int 0, .int 0, .int 0]))] : va_W)) (wr := [(h1, .inr (0, [.ref a0, .ref a1, .ref a2, .ref a3, .ref a4, .ref a5, .ref a6, .ref a7, .ref a8, .int 0, .int 0, .int 0, .int 0, .int 1, .int 0, .int 0, .int 0]))]) (isC := [0]) (isR := [1]) hP hD hS hA rfl rfl (by decide) (by decide) (gx_runV (na := 0) (As := []) (rest := []) (ci := 2) C hl.1 hK (gx_subP (wc := ([(h0, .inr (2, [.ref b0, .int 0, .int (-1), .int 0, .int 0, .int 0]))] : va_W)) hP [0] rfl) ((hD.sub (ws' := ([(h0, .inr (2, [.ref b0, .int 0, .int (-1), .int 0, .int 0, .int 0]))] : va_W)) [0] (by decide) rfl).weaken (fun _ _ _ _ => trivial)) (k_advance l D k h0 b0 _) gV_RX4_25 (by decide +kernel) rfl rfl ⟨Nat.le_of_ble_eq_true rfl, Nat.le_of_ble_eq_true rfl⟩ rfl rfl rfl rfl (Nat.le_of_ble_eq_true rfl) dX4_readOnto_11 ⟨Nat.le_of_ble_eq_true rfl, Nat.le_of_ble_eq_true rfl⟩) (fun u_1 H locs h_2 hP hD hS => ?_)
  have hP : va_P D gx_cl [(h1, .inr (0, [.ref a0, .ref a1, .ref a2, .ref a3, .ref a4, .ref a5, .ref a6, .ref a7, .ref a8, .int 0, .int 0, .int 0, .int 0, .int 1, .int 0, .int 0, .int 0])), (h0, .inr (2, [.ref b0, .int 0, .int (-1), .int 0, .int 0, .int 0]))] H := hP
  have hD : va_D A [(h1, .inr (0, [.ref a0, .ref a1, .ref a2, .ref a3, .ref a4, .ref a5, .ref a6, .ref a7, .ref a8, .int 0, .int 0, .int 0, .int 0, .int 1, .int 0, .int 0, .int 0])), (h0, .inr (2, [.ref b0, .int 0, .int (-1), .int 0, .int 0, .int 0]))] := hD
  refine lv_iconst (v := 0) hx hb dX4_readOnto_14 (by decide) ?_
  refine lv_istore_n (lv' := [(2, .int 0), (0, .ref h0), (1, .ref h1)]) hx hb dX4_readOnto_15 rfl hl (by decide) rfl (fun ls hl => ?_)
  refine lv_iconst (v := 1) hx hb dX4_readOnto_16 (by decide) ?_
  refine lv_istore_n (lv' := [(3, .int 1), (2, .int 0), (0, .ref h0), (1, .ref h1)]) hx hb dX4_readOnto_17 rfl hl (by decide) rfl (fun ls hl => ?_)
  refine lv_iconst (v := 0) hx hb dX4_readOnto_18 (by decide) ?_
  refine lv_istore (lv' := [(4, .int 0), (3, .int 1), (2, .int 0), (0, .ref h0), (1, .ref h1)]) hx hb dX4_readOnto_19 hl (by decide) rfl (fun ls hl => ?_)
  refine lv_iload hx hb dX4_readOnto_21 (lv_at hl 0 rfl) ?_
  refine lv_sipush (v := 250) hx hb dX4_readOnto_23 (by decide) ?_
  refine lv_icmp_ge (tgt := 77) hx hb dX4_readOnto_26 (by decide) (fun c_5 => absurd c_5 (by decide)) (fun c_5 => ?_)
  refine lv_iload_n hx hb dX4_readOnto_29 rfl (lv_at hl 1 rfl) ?_
  refine lv_if_eq (tgt := 77) hx hb dX4_readOnto_30 (by decide) (fun c_6 => absurd c_6 (by decide)) (fun c_6 => ?_)
  refine lv_aload_n hx hb dX4_readOnto_33 rfl (lv_at hl 3 rfl) ?_
  refine lv_aload_n hx hb dX4_readOnto_34 rfl (lv_at hl 4 rfl) ?_
  refine gx_ev (wc := ([(h0, .inr (2, [.ref b0, .int 0, .int (-1), .int 0, .int 0, .int 0])), (h1, .inr (0, [.ref a0, .ref a1, .ref a2, .ref a3, .ref a4, .ref a5, .ref a6, .ref a7, .ref a8, .int 0, .int 0, .int 0, .int 0, .int 1, .int 0, .int 0, .int 0]))] : va_W)) (wr := []) (isC := [1, 0]) (isR := []) hP hD hS hA rfl rfl (by decide) (by decide) (gx_runV (na := 1) (As := [.ref h1]) (rest := []) (ci := 2) C hl.1 hK (gx_subP (wc := ([(h0, .inr (2, [.ref b0, .int 0, .int (-1), .int 0, .int 0, .int 0])), (h1, .inr (0, [.ref a0, .ref a1, .ref a2, .ref a3, .ref a4, .ref a5, .ref a6, .ref a7, .ref a8, .int 0, .int 0, .int 0, .int 0, .int 1, .int 0, .int 0, .int 0]))] : va_W)) hP [1, 0] rfl) ((hD.sub (ws' := ([(h0, .inr (2, [.ref b0, .int 0, .int (-1), .int 0, .int 0, .int 0])), (h1, .inr (0, [.ref a0, .ref a1, .ref a2, .ref a3, .ref a4, .ref a5, .ref a6, .ref a7, .ref a8, .int 0, .int 0, .int 0, .int 0, .int 1, .int 0, .int 0, .int 0]))] : va_W)) [1, 0] (by decide) rfl).weaken (fun _ _ _ _ => trivial)) (k_readStatement l D k h0 b0 h1 a0 a1 a2 a3 a4 a5 a6 a7 a8 _) gV_RX4_28 (by decide +kernel) rfl rfl ⟨Nat.le_of_ble_eq_true rfl, Nat.le_of_ble_eq_true rfl⟩ rfl rfl rfl rfl (Nat.le_of_ble_eq_true rfl) dX4_readOnto_35 ⟨Nat.le_of_ble_eq_true rfl, Nat.le_of_ble_eq_true rfl⟩) (fun u_7 H locs h_8 hP hD hS => ?_)
  have hP : va_P D gx_cl [(h0, .inr (2, [.ref b0, .int 0, .int 0, .int 0, .int 0, .int 0]))] H := hP
  have hD : va_D A [(h0, .inr (2, [.ref b0, .int 0, .int 0, .int 0, .int 0, .int 0]))] := hD
  refine lv_iinc (v := 1) (lv' := [(2, .int 1), (4, .int 0), (3, .int 1), (0, .ref h0), (1, .ref h1)]) hx hb dX4_readOnto_38 hl (k := 2) rfl (by decide) (by decide) rfl (fun ls hl => ?_)
  refine lv_aload_n hx hb dX4_readOnto_41 rfl (lv_at hl 3 rfl) ?_
  refine va_get (D := D) (ci := 2) (v := .int 0) (C := RX4) (T := TX4) (N := 6) hx hb hT iw_TX4 hown hK.1 hP 0 rfl rfl 2 (by decide) (hT _ wd_198) (fun _ h9 => h9) rfl dX4_readOnto_42 ?_
  refine lv_iconst (v := (-1)) hx hb dX4_readOnto_45 (by decide) ?_
  refine lv_icmp_ne (tgt := 61) hx hb dX4_readOnto_46 (by decide) (fun c_11 => ?_) (fun c_11 => absurd c_11 (by decide))
  refine lv_iconst (v := 0) hx hb dX4_readOnto_61 (by decide) ?_
  refine lv_istore_n (lv' := [(3, .int 0), (2, .int 1), (4, .int 0), (0, .ref h0), (1, .ref h1)]) hx hb dX4_readOnto_62 rfl hl (by decide) rfl (fun ls hl => ?_)
  refine lv_iload_n hx hb dX4_readOnto_63 rfl (lv_at hl 0 rfl) ?_
  refine lv_if_eq (tgt := 71) hx hb dX4_readOnto_64 (by decide) (fun c_12 => ?_) (fun c_12 => absurd (by decide) c_12)
  refine lv_iinc (v := 1) (lv' := [(4, .int 1), (3, .int 0), (2, .int 1), (0, .ref h0), (1, .ref h1)]) hx hb dX4_readOnto_71 hl (k := 2) rfl (by decide) (by decide) rfl (fun ls hl => ?_)
  refine lv_goto (tgt := 21) hx hb dX4_readOnto_74 (by decide) ?_
  refine lv_iload hx hb dX4_readOnto_21 (lv_at hl 0 rfl) ?_
  refine lv_sipush (v := 250) hx hb dX4_readOnto_23 (by decide) ?_
  refine lv_icmp_ge (tgt := 77) hx hb dX4_readOnto_26 (by decide) (fun c_13 => absurd c_13 (by decide)) (fun c_13 => ?_)
  refine lv_iload_n hx hb dX4_readOnto_29 rfl (lv_at hl 1 rfl) ?_
  refine lv_if_eq (tgt := 77) hx hb dX4_readOnto_30 (by decide) (fun c_14 => ?_) (fun c_14 => absurd (by decide) c_14)
  refine lv_aload_n hx hb dX4_readOnto_77 rfl (lv_at hl 3 rfl) ?_
  refine va_get (D := D) (ci := 2) (v := .int 0) (C := RX4) (T := TX4) (N := 6) hx hb hT iw_TX4 hown hK.1 hP 0 rfl rfl 3 (by decide) (hT _ wd_200) (fun _ h9 => h9) rfl dX4_readOnto_78 ?_
  refine lv_if_eq (tgt := 88) hx hb dX4_readOnto_81 (by decide) (fun c_15 => ?_) (fun c_15 => absurd (by decide) c_15)
  refine lv_iload_n hx hb dX4_readOnto_88 rfl (lv_at hl 2 rfl) ?_
  have hP9 := gx_subP (wc := ([(h0, .inr (2, [.ref b0, .int 0, .int 0, .int 0, .int 0, .int 0]))] : va_W)) hP [0] rfl
  have hD9 := hD.sub (ws' := ([(h0, .inr (2, [.ref b0, .int 0, .int 0, .int 0, .int 0, .int 0]))] : va_W)) [0] (by decide) rfl
  exact gx_retI C (u := ()) hP9 hD9 hS (rfl) dX4_readOnto_89
set_option maxHeartbeats 4000000 in
set_option maxRecDepth 100000 in
theorem k_bitCount0 (l : Launch) (D : va_G) (k : Nat → ClassId) (sz : Nat) : Met l yJ6_bitCount_0f7a4 (.code yJ6_bitCount_0f7a4 cJ6_bitCount_0f7a4 1 (some .int) :: gx_T) ({ frames := 0, cells := 0, slots := 0, locals := 0 }) (gx_Pre D k [.int 0] ([]) sz) (gx_Pi (fun r => r = 0)) 0 0 gx_No := by
  refine gx_metP (by decide) (Nat.le_of_ble_eq_true rfl) ?_
  intro p e s m below meth c ls C hP hD hK hS hl
  obtain ⟨hx, hb, hr, hml, hown, hT, hlk, hin⟩ := id C
  have hown : s.vm.findClass RJ6 = some m.cls := hown
  have hl : lv_has ls 1 [(0, .int 0)] := hl
  refine lv_iload_n hx hb dJ6_bitCount_0f7a4_0 rfl (lv_at hl 0 rfl) ?_
  refine lv_iload_n hx hb dJ6_bitCount_0f7a4_1 rfl (lv_at hl 0 rfl) ?_
  refine lv_iconst (v := 1) hx hb dJ6_bitCount_0f7a4_2 (by decide) ?_
  refine lv_iushr (v := 0) hx hb dJ6_bitCount_0f7a4_3 (by decide) ?_
  refine lv_ldcw (v := 1431655765) hx hb hown (hT _ wd_753) dJ6_bitCount_0f7a4_4 ?_
  refine lv_iand hx hb dJ6_bitCount_0f7a4_7 ?_
  refine gx_cst (v := 0) (by decide) ?_
  refine lv_isub hx hb dJ6_bitCount_0f7a4_8 ?_
  refine gx_cst (v := 0) (by decide) ?_
  refine lv_istore_n (lv' := [(0, .int 0)]) hx hb dJ6_bitCount_0f7a4_9 rfl hl (by decide) rfl (fun ls hl => ?_)
  refine lv_iload_n hx hb dJ6_bitCount_0f7a4_10 rfl (lv_at hl 0 rfl) ?_
  refine lv_ldcw (v := 858993459) hx hb hown (hT _ wd_754) dJ6_bitCount_0f7a4_11 ?_
  refine lv_iand hx hb dJ6_bitCount_0f7a4_14 ?_
  refine gx_cst (v := 0) (by decide) ?_
  refine lv_iload_n hx hb dJ6_bitCount_0f7a4_15 rfl (lv_at hl 0 rfl) ?_
  refine lv_iconst (v := 2) hx hb dJ6_bitCount_0f7a4_16 (by decide) ?_
  refine lv_iushr (v := 0) hx hb dJ6_bitCount_0f7a4_17 (by decide) ?_
  refine lv_ldcw (v := 858993459) hx hb hown (hT _ wd_754) dJ6_bitCount_0f7a4_18 ?_
  refine lv_iand hx hb dJ6_bitCount_0f7a4_21 ?_
  refine gx_cst (v := 0) (by decide) ?_
  refine lv_iadd hx hb dJ6_bitCount_0f7a4_22 ?_
  refine gx_cst (v := 0) (by decide) ?_
  refine lv_istore_n (lv' := [(0, .int 0)]) hx hb dJ6_bitCount_0f7a4_23 rfl hl (by decide) rfl (fun ls hl => ?_)
  refine lv_iload_n hx hb dJ6_bitCount_0f7a4_24 rfl (lv_at hl 0 rfl) ?_
  refine lv_iload_n hx hb dJ6_bitCount_0f7a4_25 rfl (lv_at hl 0 rfl) ?_
  refine lv_iconst (v := 4) hx hb dJ6_bitCount_0f7a4_26 (by decide) ?_
  refine lv_iushr (v := 0) hx hb dJ6_bitCount_0f7a4_27 (by decide) ?_
  refine lv_iadd hx hb dJ6_bitCount_0f7a4_28 ?_
  refine gx_cst (v := 0) (by decide) ?_
  refine lv_ldcw (v := 252645135) hx hb hown (hT _ wd_755) dJ6_bitCount_0f7a4_29 ?_
  refine lv_iand hx hb dJ6_bitCount_0f7a4_32 ?_
  refine gx_cst (v := 0) (by decide) ?_
  refine lv_istore_n (lv' := [(0, .int 0)]) hx hb dJ6_bitCount_0f7a4_33 rfl hl (by decide) rfl (fun ls hl => ?_)
  refine lv_iload_n hx hb dJ6_bitCount_0f7a4_34 rfl (lv_at hl 0 rfl) ?_
  refine lv_iload_n hx hb dJ6_bitCount_0f7a4_35 rfl (lv_at hl 0 rfl) ?_
  refine lv_bipush (v := 8) hx hb dJ6_bitCount_0f7a4_36 (by decide) ?_
  refine lv_iushr (v := 0) hx hb dJ6_bitCount_0f7a4_38 (by decide) ?_
  refine lv_iadd hx hb dJ6_bitCount_0f7a4_39 ?_
  refine gx_cst (v := 0) (by decide) ?_
  refine lv_istore_n (lv' := [(0, .int 0)]) hx hb dJ6_bitCount_0f7a4_40 rfl hl (by decide) rfl (fun ls hl => ?_)
  refine lv_iload_n hx hb dJ6_bitCount_0f7a4_41 rfl (lv_at hl 0 rfl) ?_
  refine lv_iload_n hx hb dJ6_bitCount_0f7a4_42 rfl (lv_at hl 0 rfl) ?_
  refine lv_bipush (v := 16) hx hb dJ6_bitCount_0f7a4_43 (by decide) ?_
  refine lv_iushr (v := 0) hx hb dJ6_bitCount_0f7a4_45 (by decide) ?_
  refine lv_iadd hx hb dJ6_bitCount_0f7a4_46 ?_
  refine gx_cst (v := 0) (by decide) ?_
  refine lv_istore_n (lv' := [(0, .int 0)]) hx hb dJ6_bitCount_0f7a4_47 rfl hl (by decide) rfl (fun ls hl => ?_)
  refine lv_iload_n hx hb dJ6_bitCount_0f7a4_48 rfl (lv_at hl 0 rfl) ?_
  refine lv_bipush (v := 63) hx hb dJ6_bitCount_0f7a4_49 (by decide) ?_
  refine lv_iand hx hb dJ6_bitCount_0f7a4_51 ?_
  refine gx_cst (v := 0) (by decide) ?_
  exact gx_retP C hS (rfl) dJ6_bitCount_0f7a4_52
end
section
theorem wd_0 : Cond.selects RX6 yX6_refuse yX6_refuse ∈ gx_T := gx_in (List.mem_of_getElem? (i := 0) (by decide +kernel)) (by decide +kernel)
theorem wd_1 : Cond.selects RX6 yX6_rowTrouble yX6_rowTrouble ∈ gx_T := gx_in (List.mem_of_getElem? (i := 1) (by decide +kernel)) (by decide +kernel)
theorem wd_2 : Cond.selects RX6 yX6_ruleTrouble yX6_ruleTrouble ∈ gx_T := gx_in (List.mem_of_getElem? (i := 2) (by decide +kernel)) (by decide +kernel)
theorem wd_4 : Cond.selects RX6 yX6_isRoad yX6_isRoad ∈ gx_T := gx_in (List.mem_of_getElem? (i := 4) (by decide +kernel)) (by decide +kernel)
theorem wd_18 : Cond.selects RX6 yX6_isOne yX6_isOne ∈ gx_T := gx_in (List.mem_of_getElem? (i := 18) (by decide +kernel)) (by decide +kernel)
theorem wd_24 : Cond.selects RX6 yX6_filledShelves yX6_filledShelves ∈ gx_T := gx_in (List.mem_of_getElem? (i := 24) (by decide +kernel)) (by decide +kernel)
theorem wd_83 : Cond.initialized RJ6 ∈ gx_T := gx_in (List.mem_of_getElem? (i := 83) (by decide +kernel)) (by decide +kernel)
theorem wd_140 : Cond.fieldLink RX6 216 "EachRoadOnce$Land" "year" "I" ∈ gx_T := gx_in (List.mem_of_getElem? (i := 140) (by decide +kernel)) (by decide +kernel)
theorem wd_143 : Cond.fieldLink RX6 152 "EachRoadOnce$Land" "anew" "I" ∈ gx_T := gx_in (List.mem_of_getElem? (i := 143) (by decide +kernel)) (by decide +kernel)
theorem wd_145 : Cond.fieldLink RX6 299 "EachRoadOnce$Land" "seed" "I" ∈ gx_T := gx_in (List.mem_of_getElem? (i := 145) (by decide +kernel)) (by decide +kernel)
theorem wd_148 : Cond.fieldLink RX6 146 "EachRoadOnce$Land" "shutRoads" "I" ∈ gx_T := gx_in (List.mem_of_getElem? (i := 148) (by decide +kernel)) (by decide +kernel)
theorem wd_197 : Cond.fieldLink RX6 155 "EachRoadOnce$Tape" "size" "I" ∈ gx_T := gx_in (List.mem_of_getElem? (i := 197) (by decide +kernel)) (by decide +kernel)
theorem wd_199 : Cond.fieldLink RX6 167 "EachRoadOnce$Tape" "fault" "I" ∈ gx_T := gx_in (List.mem_of_getElem? (i := 199) (by decide +kernel)) (by decide +kernel)
theorem wd_260 : Cond.fieldLink RX6 102 "EachRoadOnce$Shelf" "content" "I" ∈ gx_T := gx_in (List.mem_of_getElem? (i := 260) (by decide +kernel)) (by decide +kernel)
theorem wd_272 : Cond.fieldLink RX6 16 "EachRoadOnce" "kept" "LEachRoadOnce$Land;" ∈ gx_T := gx_in (List.mem_of_getElem? (i := 272) (by decide +kernel)) (by decide +kernel)
theorem wd_273 : Cond.fieldLink RX6 19 "EachRoadOnce" "trial" "LEachRoadOnce$Land;" ∈ gx_T := gx_in (List.mem_of_getElem? (i := 273) (by decide +kernel)) (by decide +kernel)
theorem wd_274 : Cond.fieldLink RX6 25 "EachRoadOnce" "tape" "LEachRoadOnce$Tape;" ∈ gx_T := gx_in (List.mem_of_getElem? (i := 274) (by decide +kernel)) (by decide +kernel)
theorem wd_280 : Cond.fieldLink RX6 302 "EachRoadOnce" "hasKept" "Z" ∈ gx_T := gx_in (List.mem_of_getElem? (i := 280) (by decide +kernel)) (by decide +kernel)
theorem wd_306 : Cond.methodLink RX6 53 yX6_isShelf ∈ gx_T := gx_in (List.mem_of_getElem? (i := 306) (by decide +kernel)) (by decide +kernel)
theorem wd_307 : Cond.static yX6_isShelf ∈ gx_T := gx_in (List.mem_of_getElem? (i := 307) (by decide +kernel)) (by decide +kernel)
theorem wd_308 : Cond.code yX6_isShelf cX6_isShelf 1 (some .boolean) ∈ gx_T := gx_in (List.mem_of_getElem? (i := 308) (by decide +kernel)) (by decide +kernel)
theorem wd_312 : Cond.methodLink RX6 61 yX6_refuse ∈ gx_T := gx_in (List.mem_of_getElem? (i := 312) (by decide +kernel)) (by decide +kernel)
theorem wd_314 : Cond.instanceMethod yX6_refuse ∈ gx_T := gx_in (List.mem_of_getElem? (i := 314) (by decide +kernel)) (by decide +kernel)
theorem wd_315 : Cond.code yX6_refuse cX6_refuse 2 (some .int) ∈ gx_T := gx_in (List.mem_of_getElem? (i := 315) (by decide +kernel)) (by decide +kernel)
theorem wd_316 : Cond.methodLink RX6 65 yX3_becomeRow ∈ gx_T := gx_in (List.mem_of_getElem? (i := 316) (by decide +kernel)) (by decide +kernel)
theorem wd_317 : Cond.instanceMethod yX3_becomeRow ∈ gx_T := gx_in (List.mem_of_getElem? (i := 317) (by decide +kernel)) (by decide +kernel)
theorem wd_318 : Cond.selects RX3 yX3_becomeRow yX3_becomeRow ∈ gx_T := gx_in (List.mem_of_getElem? (i := 318) (by decide +kernel)) (by decide +kernel)
theorem wd_319 : Cond.code yX3_becomeRow cX3_becomeRow 3 none ∈ gx_T := gx_in (List.mem_of_getElem? (i := 319) (by decide +kernel)) (by decide +kernel)
theorem wd_327 : Cond.methodLink RX6 69 yX6_rowTrouble ∈ gx_T := gx_in (List.mem_of_getElem? (i := 327) (by decide +kernel)) (by decide +kernel)
theorem wd_329 : Cond.instanceMethod yX6_rowTrouble ∈ gx_T := gx_in (List.mem_of_getElem? (i := 329) (by decide +kernel)) (by decide +kernel)
theorem wd_330 : Cond.code yX6_rowTrouble cX6_rowTrouble 2 (some .int) ∈ gx_T := gx_in (List.mem_of_getElem? (i := 330) (by decide +kernel)) (by decide +kernel)
theorem wd_347 : Cond.methodLink RX6 80 yX6_copyTrouble ∈ gx_T := gx_in (List.mem_of_getElem? (i := 347) (by decide +kernel)) (by decide +kernel)
theorem wd_348 : Cond.static yX6_copyTrouble ∈ gx_T := gx_in (List.mem_of_getElem? (i := 348) (by decide +kernel)) (by decide +kernel)
theorem wd_349 : Cond.code yX6_copyTrouble cX6_copyTrouble 2 (some .int) ∈ gx_T := gx_in (List.mem_of_getElem? (i := 349) (by decide +kernel)) (by decide +kernel)
theorem wd_373 : Cond.methodLink RX6 107 yX3_becomeRule ∈ gx_T := gx_in (List.mem_of_getElem? (i := 373) (by decide +kernel)) (by decide +kernel)
theorem wd_374 : Cond.instanceMethod yX3_becomeRule ∈ gx_T := gx_in (List.mem_of_getElem? (i := 374) (by decide +kernel)) (by decide +kernel)
theorem wd_375 : Cond.selects RX3 yX3_becomeRule yX3_becomeRule ∈ gx_T := gx_in (List.mem_of_getElem? (i := 375) (by decide +kernel)) (by decide +kernel)
theorem wd_376 : Cond.code yX3_becomeRule cX3_becomeRule 3 none ∈ gx_T := gx_in (List.mem_of_getElem? (i := 376) (by decide +kernel)) (by decide +kernel)
theorem wd_381 : Cond.methodLink RX6 110 yX6_ruleTrouble ∈ gx_T := gx_in (List.mem_of_getElem? (i := 381) (by decide +kernel)) (by decide +kernel)
theorem wd_383 : Cond.instanceMethod yX6_ruleTrouble ∈ gx_T := gx_in (List.mem_of_getElem? (i := 383) (by decide +kernel)) (by decide +kernel)
theorem wd_384 : Cond.code yX6_ruleTrouble cX6_ruleTrouble 2 (some .int) ∈ gx_T := gx_in (List.mem_of_getElem? (i := 384) (by decide +kernel)) (by decide +kernel)
theorem wd_461 : Cond.methodLink RX6 130 yX6_isPlace ∈ gx_T := gx_in (List.mem_of_getElem? (i := 461) (by decide +kernel)) (by decide +kernel)
theorem wd_462 : Cond.static yX6_isPlace ∈ gx_T := gx_in (List.mem_of_getElem? (i := 462) (by decide +kernel)) (by decide +kernel)
theorem wd_463 : Cond.code yX6_isPlace cX6_isPlace 1 (some .boolean) ∈ gx_T := gx_in (List.mem_of_getElem? (i := 463) (by decide +kernel)) (by decide +kernel)
theorem wd_464 : Cond.methodLink RX6 136 yX1_build ∈ gx_T := gx_in (List.mem_of_getElem? (i := 464) (by decide +kernel)) (by decide +kernel)
theorem wd_465 : Cond.instanceMethod yX1_build ∈ gx_T := gx_in (List.mem_of_getElem? (i := 465) (by decide +kernel)) (by decide +kernel)
theorem wd_466 : Cond.selects RX1 yX1_build yX1_build ∈ gx_T := gx_in (List.mem_of_getElem? (i := 466) (by decide +kernel)) (by decide +kernel)
theorem wd_467 : Cond.code yX1_build cX1_build 6 (some .int) ∈ gx_T := gx_in (List.mem_of_getElem? (i := 467) (by decide +kernel)) (by decide +kernel)
theorem wd_472 : Cond.methodLink RX6 140 yX1_settle ∈ gx_T := gx_in (List.mem_of_getElem? (i := 472) (by decide +kernel)) (by decide +kernel)
theorem wd_473 : Cond.instanceMethod yX1_settle ∈ gx_T := gx_in (List.mem_of_getElem? (i := 473) (by decide +kernel)) (by decide +kernel)
theorem wd_474 : Cond.selects RX1 yX1_settle yX1_settle ∈ gx_T := gx_in (List.mem_of_getElem? (i := 474) (by decide +kernel)) (by decide +kernel)
theorem wd_475 : Cond.code yX1_settle cX1_settle 3 (some .int) ∈ gx_T := gx_in (List.mem_of_getElem? (i := 475) (by decide +kernel)) (by decide +kernel)
theorem wd_484 : Cond.methodLink RX6 143 yX6_isRoad ∈ gx_T := gx_in (List.mem_of_getElem? (i := 484) (by decide +kernel)) (by decide +kernel)
theorem wd_486 : Cond.instanceMethod yX6_isRoad ∈ gx_T := gx_in (List.mem_of_getElem? (i := 486) (by decide +kernel)) (by decide +kernel)
theorem wd_487 : Cond.code yX6_isRoad cX6_isRoad 2 (some .boolean) ∈ gx_T := gx_in (List.mem_of_getElem? (i := 487) (by decide +kernel)) (by decide +kernel)
theorem wd_497 : Cond.methodLink RX6 156 yX4_append ∈ gx_T := gx_in (List.mem_of_getElem? (i := 497) (by decide +kernel)) (by decide +kernel)
theorem wd_498 : Cond.instanceMethod yX4_append ∈ gx_T := gx_in (List.mem_of_getElem? (i := 498) (by decide +kernel)) (by decide +kernel)
theorem wd_499 : Cond.selects RX4 yX4_append yX4_append ∈ gx_T := gx_in (List.mem_of_getElem? (i := 499) (by decide +kernel)) (by decide +kernel)
theorem wd_500 : Cond.code yX4_append cX4_append 4 none ∈ gx_T := gx_in (List.mem_of_getElem? (i := 500) (by decide +kernel)) (by decide +kernel)
theorem wd_509 : Cond.methodLink RX6 159 yX1_become ∈ gx_T := gx_in (List.mem_of_getElem? (i := 509) (by decide +kernel)) (by decide +kernel)
theorem wd_510 : Cond.instanceMethod yX1_become ∈ gx_T := gx_in (List.mem_of_getElem? (i := 510) (by decide +kernel)) (by decide +kernel)
theorem wd_511 : Cond.selects RX1 yX1_become yX1_become ∈ gx_T := gx_in (List.mem_of_getElem? (i := 511) (by decide +kernel)) (by decide +kernel)
theorem wd_512 : Cond.code yX1_become cX1_become 2 none ∈ gx_T := gx_in (List.mem_of_getElem? (i := 512) (by decide +kernel)) (by decide +kernel)
theorem wd_514 : Cond.methodLink RX6 163 yX4_readOnto ∈ gx_T := gx_in (List.mem_of_getElem? (i := 514) (by decide +kernel)) (by decide +kernel)
theorem wd_515 : Cond.instanceMethod yX4_readOnto ∈ gx_T := gx_in (List.mem_of_getElem? (i := 515) (by decide +kernel)) (by decide +kernel)
theorem wd_516 : Cond.selects RX4 yX4_readOnto yX4_readOnto ∈ gx_T := gx_in (List.mem_of_getElem? (i := 516) (by decide +kernel)) (by decide +kernel)
theorem wd_517 : Cond.code yX4_readOnto cX4_readOnto 5 (some .int) ∈ gx_T := gx_in (List.mem_of_getElem? (i := 517) (by decide +kernel)) (by decide +kernel)
theorem wd_642 : Cond.methodLink RX6 182 yX6_isOne ∈ gx_T := gx_in (List.mem_of_getElem? (i := 642) (by decide +kernel)) (by decide +kernel)
theorem wd_644 : Cond.instanceMethod yX6_isOne ∈ gx_T := gx_in (List.mem_of_getElem? (i := 644) (by decide +kernel)) (by decide +kernel)
theorem wd_645 : Cond.code yX6_isOne cX6_isOne 2 (some .boolean) ∈ gx_T := gx_in (List.mem_of_getElem? (i := 645) (by decide +kernel)) (by decide +kernel)
theorem wd_750 : Cond.methodLink RX6 247 yJ6_bitCount_0f7a4 ∈ gx_T := gx_in (List.mem_of_getElem? (i := 750) (by decide +kernel)) (by decide +kernel)
theorem wd_751 : Cond.static yJ6_bitCount_0f7a4 ∈ gx_T := gx_in (List.mem_of_getElem? (i := 751) (by decide +kernel)) (by decide +kernel)
theorem wd_752 : Cond.code yJ6_bitCount_0f7a4 cJ6_bitCount_0f7a4 1 (some .int) ∈ gx_T := gx_in (List.mem_of_getElem? (i := 752) (by decide +kernel)) (by decide +kernel)
theorem wd_912 : Cond.methodLink RX6 306 yX1_goneInAll ∈ gx_T := gx_in (List.mem_of_getElem? (i := 912) (by decide +kernel)) (by decide +kernel)
theorem wd_913 : Cond.instanceMethod yX1_goneInAll ∈ gx_T := gx_in (List.mem_of_getElem? (i := 913) (by decide +kernel)) (by decide +kernel)
theorem wd_914 : Cond.selects RX1 yX1_goneInAll yX1_goneInAll ∈ gx_T := gx_in (List.mem_of_getElem? (i := 914) (by decide +kernel)) (by decide +kernel)
theorem wd_915 : Cond.code yX1_goneInAll cX1_goneInAll 3 (some .int) ∈ gx_T := gx_in (List.mem_of_getElem? (i := 915) (by decide +kernel)) (by decide +kernel)
theorem wd_916 : Cond.methodLink RX6 309 yX6_filledShelves ∈ gx_T := gx_in (List.mem_of_getElem? (i := 916) (by decide +kernel)) (by decide +kernel)
theorem wd_918 : Cond.instanceMethod yX6_filledShelves ∈ gx_T := gx_in (List.mem_of_getElem? (i := 918) (by decide +kernel)) (by decide +kernel)
theorem wd_919 : Cond.code yX6_filledShelves cX6_filledShelves 3 (some .int) ∈ gx_T := gx_in (List.mem_of_getElem? (i := 919) (by decide +kernel)) (by decide +kernel)
theorem gS_RX6_53 : GoodIn gx_T (va_wsS RX6 53 yX6_isShelf (.code yX6_isShelf cX6_isShelf 1 (some .boolean) :: gx_T)) := gx_gS wd_306 wd_307 wd_69 wd_308
theorem gV_RX6_65 : GoodIn gx_T (wsV RX6 65 RX3 yX3_becomeRow (.code yX3_becomeRow cX3_becomeRow 3 none :: gx_T)) := gx_gV wd_316 wd_317 wd_318 wd_74 wd_319
theorem gV_RX6_61 : GoodIn gx_T (wsV RX6 61 RX6 yX6_refuse (.code yX6_refuse cX6_refuse 2 (some .int) :: gx_T)) := gx_gV wd_312 wd_314 wd_0 wd_69 wd_315
theorem gV_RX6_69 : GoodIn gx_T (wsV RX6 69 RX6 yX6_rowTrouble (.code yX6_rowTrouble cX6_rowTrouble 2 (some .int) :: gx_T)) := gx_gV wd_327 wd_329 wd_1 wd_69 wd_330
theorem gS_RX6_80 : GoodIn gx_T (va_wsS RX6 80 yX6_copyTrouble (.code yX6_copyTrouble cX6_copyTrouble 2 (some .int) :: gx_T)) := gx_gS wd_347 wd_348 wd_69 wd_349
theorem gV_RX6_107 : GoodIn gx_T (wsV RX6 107 RX3 yX3_becomeRule (.code yX3_becomeRule cX3_becomeRule 3 none :: gx_T)) := gx_gV wd_373 wd_374 wd_375 wd_74 wd_376
theorem gV_RX6_110 : GoodIn gx_T (wsV RX6 110 RX6 yX6_ruleTrouble (.code yX6_ruleTrouble cX6_ruleTrouble 2 (some .int) :: gx_T)) := gx_gV wd_381 wd_383 wd_2 wd_69 wd_384
theorem gS_RX6_130 : GoodIn gx_T (va_wsS RX6 130 yX6_isPlace (.code yX6_isPlace cX6_isPlace 1 (some .boolean) :: gx_T)) := gx_gS wd_461 wd_462 wd_69 wd_463
theorem gV_RX6_136 : GoodIn gx_T (wsV RX6 136 RX1 yX1_build (.code yX1_build cX1_build 6 (some .int) :: gx_T)) := gx_gV wd_464 wd_465 wd_466 wd_70 wd_467
theorem gV_RX6_140 : GoodIn gx_T (wsV RX6 140 RX1 yX1_settle (.code yX1_settle cX1_settle 3 (some .int) :: gx_T)) := gx_gV wd_472 wd_473 wd_474 wd_70 wd_475
theorem gV_RX6_143 : GoodIn gx_T (wsV RX6 143 RX6 yX6_isRoad (.code yX6_isRoad cX6_isRoad 2 (some .boolean) :: gx_T)) := gx_gV wd_484 wd_486 wd_4 wd_69 wd_487
theorem gV_RX6_156 : GoodIn gx_T (wsV RX6 156 RX4 yX4_append (.code yX4_append cX4_append 4 none :: gx_T)) := gx_gV wd_497 wd_498 wd_499 wd_72 wd_500
theorem gV_RX6_159 : GoodIn gx_T (wsV RX6 159 RX1 yX1_become (.code yX1_become cX1_become 2 none :: gx_T)) := gx_gV wd_509 wd_510 wd_511 wd_70 wd_512
theorem gV_RX6_163 : GoodIn gx_T (wsV RX6 163 RX4 yX4_readOnto (.code yX4_readOnto cX4_readOnto 5 (some .int) :: gx_T)) := gx_gV wd_514 wd_515 wd_516 wd_72 wd_517
theorem gV_RX6_182 : GoodIn gx_T (wsV RX6 182 RX6 yX6_isOne (.code yX6_isOne cX6_isOne 2 (some .boolean) :: gx_T)) := gx_gV wd_642 wd_644 wd_18 wd_69 wd_645
theorem gV_RX6_306 : GoodIn gx_T (wsV RX6 306 RX1 yX1_goneInAll (.code yX1_goneInAll cX1_goneInAll 3 (some .int) :: gx_T)) := gx_gV wd_912 wd_913 wd_914 wd_70 wd_915
theorem gV_RX6_309 : GoodIn gx_T (wsV RX6 309 RX6 yX6_filledShelves (.code yX6_filledShelves cX6_filledShelves 3 (some .int) :: gx_T)) := gx_gV wd_916 wd_918 wd_24 wd_69 wd_919
theorem gS_RX6_247 : GoodIn gx_T (va_wsS RX6 247 yJ6_bitCount_0f7a4 (.code yJ6_bitCount_0f7a4 cJ6_bitCount_0f7a4 1 (some .int) :: gx_T)) := gx_gS wd_750 wd_751 wd_83 wd_752
theorem dX6_row_0 : decode cX6_row 0 = .ok (.iload_n 1, 1) := by decide +kernel
theorem dX6_row_1 : decode cX6_row 1 = .ok (.invokestatic 53, 3) := by decide +kernel
theorem dX6_row_4 : decode cX6_row 4 = .ok (.ifCond .eq 22, 3) := by decide +kernel
theorem dX6_row_7 : decode cX6_row 7 = .ok (.iload_n 2, 1) := by decide +kernel
theorem dX6_row_8 : decode cX6_row 8 = .ok (.iconst 0, 1) := by decide +kernel
theorem dX6_row_9 : decode cX6_row 9 = .ok (.iconst 4, 1) := by decide +kernel
theorem dX6_row_10 : decode cX6_row 10 = .ok (.invokestatic 57, 3) := by decide +kernel
theorem dX6_row_13 : decode cX6_row 13 = .ok (.ifCond .eq 13, 3) := by decide +kernel
theorem dX6_row_16 : decode cX6_row 16 = .ok (.iload_n 3, 1) := by decide +kernel
theorem dX6_row_17 : decode cX6_row 17 = .ok (.iconst 0, 1) := by decide +kernel
theorem dX6_row_18 : decode cX6_row 18 = .ok (.bipush 40, 2) := by decide +kernel
theorem dX6_row_20 : decode cX6_row 20 = .ok (.invokestatic 57, 3) := by decide +kernel
theorem dX6_row_23 : decode cX6_row 23 = .ok (.ifCond .ne 10, 3) := by decide +kernel
theorem dX6_row_26 : decode cX6_row 26 = .ok (.aload_n 0, 1) := by decide +kernel
theorem dX6_row_27 : decode cX6_row 27 = .ok (.bipush (-2), 2) := by decide +kernel
theorem dX6_row_29 : decode cX6_row 29 = .ok (.invokevirtual 61, 3) := by decide +kernel
theorem dX6_row_32 : decode cX6_row 32 = .ok (.ireturn, 1) := by decide +kernel
theorem dX6_row_33 : decode cX6_row 33 = .ok (.aload_n 0, 1) := by decide +kernel
theorem dX6_row_34 : decode cX6_row 34 = .ok (.getfield 31, 3) := by decide +kernel
theorem dX6_row_37 : decode cX6_row 37 = .ok (.iload_n 1, 1) := by decide +kernel
theorem dX6_row_38 : decode cX6_row 38 = .ok (.aaload, 1) := by decide +kernel
theorem dX6_row_39 : decode cX6_row 39 = .ok (.iload_n 2, 1) := by decide +kernel
theorem dX6_row_40 : decode cX6_row 40 = .ok (.iload_n 3, 1) := by decide +kernel
theorem dX6_row_41 : decode cX6_row 41 = .ok (.invokevirtual 65, 3) := by decide +kernel
theorem dX6_row_44 : decode cX6_row 44 = .ok (.iconst 1, 1) := by decide +kernel
theorem dX6_row_45 : decode cX6_row 45 = .ok (.ireturn, 1) := by decide +kernel
theorem dX6_set_0 : decode cX6_set 0 = .ok (.iload_n 1, 1) := by decide +kernel
theorem dX6_set_1 : decode cX6_set 1 = .ok (.invokestatic 53, 3) := by decide +kernel
theorem dX6_set_4 : decode cX6_set 4 = .ok (.ifCond .ne 10, 3) := by decide +kernel
theorem dX6_set_7 : decode cX6_set 7 = .ok (.aload_n 0, 1) := by decide +kernel
theorem dX6_set_8 : decode cX6_set 8 = .ok (.bipush (-2), 2) := by decide +kernel
theorem dX6_set_10 : decode cX6_set 10 = .ok (.invokevirtual 61, 3) := by decide +kernel
theorem dX6_set_13 : decode cX6_set 13 = .ok (.ireturn, 1) := by decide +kernel
theorem dX6_set_14 : decode cX6_set 14 = .ok (.aload_n 0, 1) := by decide +kernel
theorem dX6_set_15 : decode cX6_set 15 = .ok (.iload_n 1, 1) := by decide +kernel
theorem dX6_set_16 : decode cX6_set 16 = .ok (.invokevirtual 69, 3) := by decide +kernel
theorem dX6_set_19 : decode cX6_set 19 = .ok (.istore 5, 2) := by decide +kernel
theorem dX6_set_21 : decode cX6_set 21 = .ok (.iload 5, 2) := by decide +kernel
theorem dX6_set_23 : decode cX6_set 23 = .ok (.ifCond .eq 10, 3) := by decide +kernel
theorem dX6_set_26 : decode cX6_set 26 = .ok (.aload_n 0, 1) := by decide +kernel
theorem dX6_set_27 : decode cX6_set 27 = .ok (.iload 5, 2) := by decide +kernel
theorem dX6_set_29 : decode cX6_set 29 = .ok (.invokevirtual 61, 3) := by decide +kernel
theorem dX6_set_32 : decode cX6_set 32 = .ok (.ireturn, 1) := by decide +kernel
theorem dX6_copy_0 : decode cX6_copy 0 = .ok (.iload_n 1, 1) := by decide +kernel
theorem dX6_copy_1 : decode cX6_copy 1 = .ok (.invokestatic 53, 3) := by decide +kernel
theorem dX6_copy_4 : decode cX6_copy 4 = .ok (.ifCond .eq 10, 3) := by decide +kernel
theorem dX6_copy_7 : decode cX6_copy 7 = .ok (.iload_n 2, 1) := by decide +kernel
theorem dX6_copy_8 : decode cX6_copy 8 = .ok (.invokestatic 53, 3) := by decide +kernel
theorem dX6_copy_11 : decode cX6_copy 11 = .ok (.ifCond .ne 10, 3) := by decide +kernel
theorem dX6_copy_14 : decode cX6_copy 14 = .ok (.aload_n 0, 1) := by decide +kernel
theorem dX6_copy_15 : decode cX6_copy 15 = .ok (.bipush (-2), 2) := by decide +kernel
theorem dX6_copy_17 : decode cX6_copy 17 = .ok (.invokevirtual 61, 3) := by decide +kernel
theorem dX6_copy_20 : decode cX6_copy 20 = .ok (.ireturn, 1) := by decide +kernel
theorem dX6_copy_21 : decode cX6_copy 21 = .ok (.aload_n 0, 1) := by decide +kernel
theorem dX6_copy_22 : decode cX6_copy 22 = .ok (.getfield 31, 3) := by decide +kernel
theorem dX6_copy_25 : decode cX6_copy 25 = .ok (.iload_n 1, 1) := by decide +kernel
theorem dX6_copy_26 : decode cX6_copy 26 = .ok (.aaload, 1) := by decide +kernel
theorem dX6_copy_27 : decode cX6_copy 27 = .ok (.aload_n 0, 1) := by decide +kernel
theorem dX6_copy_28 : decode cX6_copy 28 = .ok (.getfield 31, 3) := by decide +kernel
theorem dX6_copy_31 : decode cX6_copy 31 = .ok (.iload_n 2, 1) := by decide +kernel
theorem dX6_copy_32 : decode cX6_copy 32 = .ok (.aaload, 1) := by decide +kernel
theorem dX6_copy_33 : decode cX6_copy 33 = .ok (.invokestatic 80, 3) := by decide +kernel
theorem dX6_copy_36 : decode cX6_copy 36 = .ok (.istore 6, 2) := by decide +kernel
theorem dX6_copy_38 : decode cX6_copy 38 = .ok (.iload 6, 2) := by decide +kernel
theorem dX6_copy_40 : decode cX6_copy 40 = .ok (.ifCond .eq 10, 3) := by decide +kernel
theorem dX6_copy_43 : decode cX6_copy 43 = .ok (.aload_n 0, 1) := by decide +kernel
theorem dX6_copy_44 : decode cX6_copy 44 = .ok (.iload 6, 2) := by decide +kernel
theorem dX6_copy_46 : decode cX6_copy 46 = .ok (.invokevirtual 61, 3) := by decide +kernel
theorem dX6_copy_49 : decode cX6_copy 49 = .ok (.ireturn, 1) := by decide +kernel
theorem dX6_element_0 : decode cX6_element 0 = .ok (.iload_n 1, 1) := by decide +kernel
theorem dX6_element_1 : decode cX6_element 1 = .ok (.invokestatic 53, 3) := by decide +kernel
theorem dX6_element_4 : decode cX6_element 4 = .ok (.ifCond .eq 34, 3) := by decide +kernel
theorem dX6_element_7 : decode cX6_element 7 = .ok (.aload_n 0, 1) := by decide +kernel
theorem dX6_element_8 : decode cX6_element 8 = .ok (.getfield 31, 3) := by decide +kernel
theorem dX6_element_11 : decode cX6_element 11 = .ok (.iload_n 1, 1) := by decide +kernel
theorem dX6_element_12 : decode cX6_element 12 = .ok (.aaload, 1) := by decide +kernel
theorem dX6_element_13 : decode cX6_element 13 = .ok (.invokevirtual 98, 3) := by decide +kernel
theorem dX6_element_16 : decode cX6_element 16 = .ok (.ifCond .eq 22, 3) := by decide +kernel
theorem dX6_element_38 : decode cX6_element 38 = .ok (.lconst 0, 1) := by decide +kernel
theorem dX6_element_39 : decode cX6_element 39 = .ok (.lreturn, 1) := by decide +kernel
theorem dX6_holds_0 : decode cX6_holds 0 = .ok (.iload_n 1, 1) := by decide +kernel
theorem dX6_holds_1 : decode cX6_holds 1 = .ok (.invokestatic 53, 3) := by decide +kernel
theorem dX6_holds_4 : decode cX6_holds 4 = .ok (.ifCond .eq 15, 3) := by decide +kernel
theorem dX6_holds_7 : decode cX6_holds 7 = .ok (.aload_n 0, 1) := by decide +kernel
theorem dX6_holds_8 : decode cX6_holds 8 = .ok (.getfield 31, 3) := by decide +kernel
theorem dX6_holds_11 : decode cX6_holds 11 = .ok (.iload_n 1, 1) := by decide +kernel
theorem dX6_holds_12 : decode cX6_holds 12 = .ok (.aaload, 1) := by decide +kernel
theorem dX6_holds_13 : decode cX6_holds 13 = .ok (.getfield 102, 3) := by decide +kernel
theorem dX6_holds_16 : decode cX6_holds 16 = .ok (.goto 4, 3) := by decide +kernel
theorem dX6_holds_19 : decode cX6_holds 19 = .ok (.iconst (-1), 1) := by decide +kernel
theorem dX6_holds_20 : decode cX6_holds 20 = .ok (.ireturn, 1) := by decide +kernel
theorem dX6_rule_0 : decode cX6_rule 0 = .ok (.iload_n 1, 1) := by decide +kernel
theorem dX6_rule_1 : decode cX6_rule 1 = .ok (.invokestatic 53, 3) := by decide +kernel
theorem dX6_rule_4 : decode cX6_rule 4 = .ok (.ifCond .eq 23, 3) := by decide +kernel
theorem dX6_rule_7 : decode cX6_rule 7 = .ok (.iload_n 2, 1) := by decide +kernel
theorem dX6_rule_8 : decode cX6_rule 8 = .ok (.iconst 1, 1) := by decide +kernel
theorem dX6_rule_9 : decode cX6_rule 9 = .ok (.bipush 6, 2) := by decide +kernel
theorem dX6_rule_11 : decode cX6_rule 11 = .ok (.invokestatic 57, 3) := by decide +kernel
theorem dX6_rule_14 : decode cX6_rule 14 = .ok (.ifCond .eq 13, 3) := by decide +kernel
theorem dX6_rule_17 : decode cX6_rule 17 = .ok (.iload_n 3, 1) := by decide +kernel
theorem dX6_rule_18 : decode cX6_rule 18 = .ok (.iconst 0, 1) := by decide +kernel
theorem dX6_rule_19 : decode cX6_rule 19 = .ok (.bipush 99, 2) := by decide +kernel
theorem dX6_rule_21 : decode cX6_rule 21 = .ok (.invokestatic 57, 3) := by decide +kernel
theorem dX6_rule_24 : decode cX6_rule 24 = .ok (.ifCond .ne 10, 3) := by decide +kernel
theorem dX6_rule_27 : decode cX6_rule 27 = .ok (.aload_n 0, 1) := by decide +kernel
theorem dX6_rule_28 : decode cX6_rule 28 = .ok (.bipush (-2), 2) := by decide +kernel
theorem dX6_rule_30 : decode cX6_rule 30 = .ok (.invokevirtual 61, 3) := by decide +kernel
theorem dX6_rule_33 : decode cX6_rule 33 = .ok (.ireturn, 1) := by decide +kernel
theorem dX6_rule_34 : decode cX6_rule 34 = .ok (.aload_n 0, 1) := by decide +kernel
theorem dX6_rule_35 : decode cX6_rule 35 = .ok (.getfield 31, 3) := by decide +kernel
theorem dX6_rule_38 : decode cX6_rule 38 = .ok (.iload_n 1, 1) := by decide +kernel
theorem dX6_rule_39 : decode cX6_rule 39 = .ok (.aaload, 1) := by decide +kernel
theorem dX6_rule_40 : decode cX6_rule 40 = .ok (.iload_n 2, 1) := by decide +kernel
theorem dX6_rule_41 : decode cX6_rule 41 = .ok (.iload_n 3, 1) := by decide +kernel
theorem dX6_rule_42 : decode cX6_rule 42 = .ok (.invokevirtual 107, 3) := by decide +kernel
theorem dX6_rule_45 : decode cX6_rule 45 = .ok (.iconst 1, 1) := by decide +kernel
theorem dX6_rule_46 : decode cX6_rule 46 = .ok (.ireturn, 1) := by decide +kernel
theorem dX6_says_0 : decode cX6_says 0 = .ok (.iload_n 1, 1) := by decide +kernel
theorem dX6_says_1 : decode cX6_says 1 = .ok (.invokestatic 53, 3) := by decide +kernel
theorem dX6_says_4 : decode cX6_says 4 = .ok (.ifCond .eq 13, 3) := by decide +kernel
theorem dX6_says_7 : decode cX6_says 7 = .ok (.iload_n 2, 1) := by decide +kernel
theorem dX6_says_8 : decode cX6_says 8 = .ok (.iconst 0, 1) := by decide +kernel
theorem dX6_says_9 : decode cX6_says 9 = .ok (.bipush 6, 2) := by decide +kernel
theorem dX6_says_11 : decode cX6_says 11 = .ok (.invokestatic 57, 3) := by decide +kernel
theorem dX6_says_14 : decode cX6_says 14 = .ok (.ifCond .ne 10, 3) := by decide +kernel
theorem dX6_says_17 : decode cX6_says 17 = .ok (.aload_n 0, 1) := by decide +kernel
theorem dX6_says_18 : decode cX6_says 18 = .ok (.bipush (-2), 2) := by decide +kernel
theorem dX6_says_20 : decode cX6_says 20 = .ok (.invokevirtual 61, 3) := by decide +kernel
theorem dX6_says_23 : decode cX6_says 23 = .ok (.ireturn, 1) := by decide +kernel
theorem dX6_says_24 : decode cX6_says 24 = .ok (.aload_n 0, 1) := by decide +kernel
theorem dX6_says_25 : decode cX6_says 25 = .ok (.iload_n 1, 1) := by decide +kernel
theorem dX6_says_26 : decode cX6_says 26 = .ok (.invokevirtual 110, 3) := by decide +kernel
theorem dX6_says_29 : decode cX6_says 29 = .ok (.istore_n 3, 1) := by decide +kernel
theorem dX6_says_30 : decode cX6_says 30 = .ok (.iload_n 3, 1) := by decide +kernel
theorem dX6_says_31 : decode cX6_says 31 = .ok (.ifCond .ne 22, 3) := by decide +kernel
theorem dX6_says_53 : decode cX6_says 53 = .ok (.iload_n 3, 1) := by decide +kernel
theorem dX6_says_54 : decode cX6_says 54 = .ok (.ifCond .eq 9, 3) := by decide +kernel
theorem dX6_says_57 : decode cX6_says 57 = .ok (.aload_n 0, 1) := by decide +kernel
theorem dX6_says_58 : decode cX6_says 58 = .ok (.iload_n 3, 1) := by decide +kernel
theorem dX6_says_59 : decode cX6_says 59 = .ok (.invokevirtual 61, 3) := by decide +kernel
theorem dX6_says_62 : decode cX6_says 62 = .ok (.ireturn, 1) := by decide +kernel
theorem dX6_road_0 : decode cX6_road 0 = .ok (.iload_n 1, 1) := by decide +kernel
theorem dX6_road_1 : decode cX6_road 1 = .ok (.invokestatic 130, 3) := by decide +kernel
theorem dX6_road_4 : decode cX6_road 4 = .ok (.ifCond .eq 25, 3) := by decide +kernel
theorem dX6_road_7 : decode cX6_road 7 = .ok (.iload_n 2, 1) := by decide +kernel
theorem dX6_road_8 : decode cX6_road 8 = .ok (.invokestatic 130, 3) := by decide +kernel
theorem dX6_road_11 : decode cX6_road 11 = .ok (.ifCond .eq 18, 3) := by decide +kernel
theorem dX6_road_14 : decode cX6_road 14 = .ok (.iload_n 1, 1) := by decide +kernel
theorem dX6_road_15 : decode cX6_road 15 = .ok (.iload_n 2, 1) := by decide +kernel
theorem dX6_road_16 : decode cX6_road 16 = .ok (.if_icmp .eq 13, 3) := by decide +kernel
theorem dX6_road_19 : decode cX6_road 19 = .ok (.iload_n 3, 1) := by decide +kernel
theorem dX6_road_20 : decode cX6_road 20 = .ok (.iconst 1, 1) := by decide +kernel
theorem dX6_road_21 : decode cX6_road 21 = .ok (.bipush 60, 2) := by decide +kernel
theorem dX6_road_23 : decode cX6_road 23 = .ok (.invokestatic 57, 3) := by decide +kernel
theorem dX6_road_26 : decode cX6_road 26 = .ok (.ifCond .ne 10, 3) := by decide +kernel
theorem dX6_road_29 : decode cX6_road 29 = .ok (.aload_n 0, 1) := by decide +kernel
theorem dX6_road_30 : decode cX6_road 30 = .ok (.bipush (-2), 2) := by decide +kernel
theorem dX6_road_32 : decode cX6_road 32 = .ok (.invokevirtual 61, 3) := by decide +kernel
theorem dX6_road_35 : decode cX6_road 35 = .ok (.ireturn, 1) := by decide +kernel
theorem dX6_road_36 : decode cX6_road 36 = .ok (.aload_n 0, 1) := by decide +kernel
theorem dX6_road_37 : decode cX6_road 37 = .ok (.getfield 10, 3) := by decide +kernel
theorem dX6_road_40 : decode cX6_road 40 = .ok (.getfield 133, 3) := by decide +kernel
theorem dX6_road_43 : decode cX6_road 43 = .ok (.bipush 16, 2) := by decide +kernel
theorem dX6_road_45 : decode cX6_road 45 = .ok (.if_icmp .ne 12, 3) := by decide +kernel
theorem dX6_road_57 : decode cX6_road 57 = .ok (.aload_n 0, 1) := by decide +kernel
theorem dX6_road_58 : decode cX6_road 58 = .ok (.getfield 10, 3) := by decide +kernel
theorem dX6_road_61 : decode cX6_road 61 = .ok (.iload_n 1, 1) := by decide +kernel
theorem dX6_road_62 : decode cX6_road 62 = .ok (.iload_n 2, 1) := by decide +kernel
theorem dX6_road_63 : decode cX6_road 63 = .ok (.iload_n 3, 1) := by decide +kernel
theorem dX6_road_64 : decode cX6_road 64 = .ok (.iload 4, 2) := by decide +kernel
theorem dX6_road_66 : decode cX6_road 66 = .ok (.invokevirtual 136, 3) := by decide +kernel
theorem dX6_road_69 : decode cX6_road 69 = .ok (.ireturn, 1) := by decide +kernel
theorem dX6_one_0 : decode cX6_one 0 = .ok (.iload_n 1, 1) := by decide +kernel
theorem dX6_one_1 : decode cX6_one 1 = .ok (.invokestatic 130, 3) := by decide +kernel
theorem dX6_one_4 : decode cX6_one 4 = .ok (.ifCond .ne 10, 3) := by decide +kernel
theorem dX6_one_7 : decode cX6_one 7 = .ok (.aload_n 0, 1) := by decide +kernel
theorem dX6_one_8 : decode cX6_one 8 = .ok (.bipush (-2), 2) := by decide +kernel
theorem dX6_one_10 : decode cX6_one 10 = .ok (.invokevirtual 61, 3) := by decide +kernel
theorem dX6_one_13 : decode cX6_one 13 = .ok (.ireturn, 1) := by decide +kernel
theorem dX6_one_14 : decode cX6_one 14 = .ok (.aload_n 0, 1) := by decide +kernel
theorem dX6_one_15 : decode cX6_one 15 = .ok (.getfield 10, 3) := by decide +kernel
theorem dX6_one_18 : decode cX6_one 18 = .ok (.getfield 123, 3) := by decide +kernel
theorem dX6_one_21 : decode cX6_one 21 = .ok (.bipush 6, 2) := by decide +kernel
theorem dX6_one_23 : decode cX6_one 23 = .ok (.if_icmp .ne 12, 3) := by decide +kernel
theorem dX6_one_35 : decode cX6_one 35 = .ok (.aload_n 0, 1) := by decide +kernel
theorem dX6_one_36 : decode cX6_one 36 = .ok (.getfield 10, 3) := by decide +kernel
theorem dX6_one_39 : decode cX6_one 39 = .ok (.iload_n 1, 1) := by decide +kernel
theorem dX6_one_40 : decode cX6_one 40 = .ok (.invokevirtual 140, 3) := by decide +kernel
theorem dX6_one_43 : decode cX6_one 43 = .ok (.ireturn, 1) := by decide +kernel
theorem dX6_shut_0 : decode cX6_shut 0 = .ok (.aload_n 0, 1) := by decide +kernel
theorem dX6_shut_1 : decode cX6_shut 1 = .ok (.iload_n 1, 1) := by decide +kernel
theorem dX6_shut_2 : decode cX6_shut 2 = .ok (.invokevirtual 143, 3) := by decide +kernel
theorem dX6_shut_5 : decode cX6_shut 5 = .ok (.ifCond .ne 10, 3) := by decide +kernel
theorem dX6_shut_8 : decode cX6_shut 8 = .ok (.aload_n 0, 1) := by decide +kernel
theorem dX6_shut_9 : decode cX6_shut 9 = .ok (.bipush (-2), 2) := by decide +kernel
theorem dX6_shut_11 : decode cX6_shut 11 = .ok (.invokevirtual 61, 3) := by decide +kernel
theorem dX6_shut_14 : decode cX6_shut 14 = .ok (.ireturn, 1) := by decide +kernel
theorem dX6_anew_0 : decode cX6_anew 0 = .ok (.iload_n 1, 1) := by decide +kernel
theorem dX6_anew_1 : decode cX6_anew 1 = .ok (.iconst 0, 1) := by decide +kernel
theorem dX6_anew_2 : decode cX6_anew 2 = .ok (.bipush 99, 2) := by decide +kernel
theorem dX6_anew_4 : decode cX6_anew 4 = .ok (.invokestatic 57, 3) := by decide +kernel
theorem dX6_anew_7 : decode cX6_anew 7 = .ok (.ifCond .ne 10, 3) := by decide +kernel
theorem dX6_anew_10 : decode cX6_anew 10 = .ok (.aload_n 0, 1) := by decide +kernel
theorem dX6_anew_11 : decode cX6_anew 11 = .ok (.bipush (-2), 2) := by decide +kernel
theorem dX6_anew_13 : decode cX6_anew 13 = .ok (.invokevirtual 61, 3) := by decide +kernel
theorem dX6_anew_16 : decode cX6_anew 16 = .ok (.ireturn, 1) := by decide +kernel
theorem dX6_anew_17 : decode cX6_anew 17 = .ok (.aload_n 0, 1) := by decide +kernel
theorem dX6_anew_18 : decode cX6_anew 18 = .ok (.getfield 10, 3) := by decide +kernel
theorem dX6_anew_21 : decode cX6_anew 21 = .ok (.getfield 152, 3) := by decide +kernel
theorem dX6_anew_24 : decode cX6_anew 24 = .ok (.istore_n 2, 1) := by decide +kernel
theorem dX6_anew_25 : decode cX6_anew 25 = .ok (.aload_n 0, 1) := by decide +kernel
theorem dX6_anew_26 : decode cX6_anew 26 = .ok (.getfield 10, 3) := by decide +kernel
theorem dX6_anew_29 : decode cX6_anew 29 = .ok (.iload_n 1, 1) := by decide +kernel
theorem dX6_anew_30 : decode cX6_anew 30 = .ok (.putfield 152, 3) := by decide +kernel
theorem dX6_anew_33 : decode cX6_anew 33 = .ok (.iload_n 2, 1) := by decide +kernel
theorem dX6_anew_34 : decode cX6_anew 34 = .ok (.ireturn, 1) := by decide +kernel
theorem dX6_feed_0 : decode cX6_feed 0 = .ok (.iload_n 2, 1) := by decide +kernel
theorem dX6_feed_1 : decode cX6_feed 1 = .ok (.iconst 1, 1) := by decide +kernel
theorem dX6_feed_2 : decode cX6_feed 2 = .ok (.iconst 4, 1) := by decide +kernel
theorem dX6_feed_3 : decode cX6_feed 3 = .ok (.invokestatic 57, 3) := by decide +kernel
theorem dX6_feed_6 : decode cX6_feed 6 = .ok (.ifCond .ne 10, 3) := by decide +kernel
theorem dX6_feed_9 : decode cX6_feed 9 = .ok (.aload_n 0, 1) := by decide +kernel
theorem dX6_feed_10 : decode cX6_feed 10 = .ok (.bipush (-2), 2) := by decide +kernel
theorem dX6_feed_12 : decode cX6_feed 12 = .ok (.invokevirtual 61, 3) := by decide +kernel
theorem dX6_feed_15 : decode cX6_feed 15 = .ok (.ireturn, 1) := by decide +kernel
theorem dX6_feed_16 : decode cX6_feed 16 = .ok (.aload_n 0, 1) := by decide +kernel
theorem dX6_feed_17 : decode cX6_feed 17 = .ok (.getfield 25, 3) := by decide +kernel
theorem dX6_feed_20 : decode cX6_feed 20 = .ok (.getfield 155, 3) := by decide +kernel
theorem dX6_feed_23 : decode cX6_feed 23 = .ok (.iload_n 2, 1) := by decide +kernel
theorem dX6_feed_24 : decode cX6_feed 24 = .ok (.iadd, 1) := by decide +kernel
theorem dX6_feed_25 : decode cX6_feed 25 = .ok (.sipush 250, 3) := by decide +kernel
theorem dX6_feed_28 : decode cX6_feed 28 = .ok (.if_icmp .le 10, 3) := by decide +kernel
theorem dX6_feed_38 : decode cX6_feed 38 = .ok (.aload_n 0, 1) := by decide +kernel
theorem dX6_feed_39 : decode cX6_feed 39 = .ok (.getfield 25, 3) := by decide +kernel
theorem dX6_feed_42 : decode cX6_feed 42 = .ok (.iload_n 1, 1) := by decide +kernel
theorem dX6_feed_43 : decode cX6_feed 43 = .ok (.iload_n 2, 1) := by decide +kernel
theorem dX6_feed_44 : decode cX6_feed 44 = .ok (.invokevirtual 156, 3) := by decide +kernel
theorem dX6_feed_47 : decode cX6_feed 47 = .ok (.aload_n 0, 1) := by decide +kernel
theorem dX6_feed_48 : decode cX6_feed 48 = .ok (.getfield 25, 3) := by decide +kernel
theorem dX6_feed_51 : decode cX6_feed 51 = .ok (.getfield 155, 3) := by decide +kernel
theorem dX6_feed_54 : decode cX6_feed 54 = .ok (.ireturn, 1) := by decide +kernel
theorem dX6_wipe_0 : decode cX6_wipe 0 = .ok (.aload_n 0, 1) := by decide +kernel
theorem dX6_wipe_1 : decode cX6_wipe 1 = .ok (.getfield 25, 3) := by decide +kernel
theorem dX6_wipe_4 : decode cX6_wipe 4 = .ok (.getfield 155, 3) := by decide +kernel
theorem dX6_wipe_7 : decode cX6_wipe 7 = .ok (.istore_n 1, 1) := by decide +kernel
theorem dX6_wipe_8 : decode cX6_wipe 8 = .ok (.aload_n 0, 1) := by decide +kernel
theorem dX6_wipe_9 : decode cX6_wipe 9 = .ok (.getfield 25, 3) := by decide +kernel
theorem dX6_wipe_12 : decode cX6_wipe 12 = .ok (.iconst 0, 1) := by decide +kernel
theorem dX6_wipe_13 : decode cX6_wipe 13 = .ok (.putfield 155, 3) := by decide +kernel
theorem dX6_wipe_16 : decode cX6_wipe 16 = .ok (.iload_n 1, 1) := by decide +kernel
theorem dX6_wipe_17 : decode cX6_wipe 17 = .ok (.ireturn, 1) := by decide +kernel
theorem dX6_land_0 : decode cX6_land 0 = .ok (.aload_n 0, 1) := by decide +kernel
theorem dX6_land_1 : decode cX6_land 1 = .ok (.getfield 19, 3) := by decide +kernel
theorem dX6_land_4 : decode cX6_land 4 = .ok (.aload_n 0, 1) := by decide +kernel
theorem dX6_land_5 : decode cX6_land 5 = .ok (.getfield 10, 3) := by decide +kernel
theorem dX6_land_8 : decode cX6_land 8 = .ok (.invokevirtual 159, 3) := by decide +kernel
theorem dX6_land_11 : decode cX6_land 11 = .ok (.aload_n 0, 1) := by decide +kernel
theorem dX6_land_12 : decode cX6_land 12 = .ok (.getfield 25, 3) := by decide +kernel
theorem dX6_land_15 : decode cX6_land 15 = .ok (.aload_n 0, 1) := by decide +kernel
theorem dX6_land_16 : decode cX6_land 16 = .ok (.getfield 19, 3) := by decide +kernel
theorem dX6_land_19 : decode cX6_land 19 = .ok (.invokevirtual 163, 3) := by decide +kernel
theorem dX6_land_22 : decode cX6_land 22 = .ok (.istore_n 1, 1) := by decide +kernel
theorem dX6_land_23 : decode cX6_land 23 = .ok (.aload_n 0, 1) := by decide +kernel
theorem dX6_land_24 : decode cX6_land 24 = .ok (.getfield 25, 3) := by decide +kernel
theorem dX6_land_27 : decode cX6_land 27 = .ok (.getfield 167, 3) := by decide +kernel
theorem dX6_land_30 : decode cX6_land 30 = .ok (.istore_n 2, 1) := by decide +kernel
theorem dX6_land_31 : decode cX6_land 31 = .ok (.aload_n 0, 1) := by decide +kernel
theorem dX6_land_32 : decode cX6_land 32 = .ok (.getfield 25, 3) := by decide +kernel
theorem dX6_land_35 : decode cX6_land 35 = .ok (.iconst 0, 1) := by decide +kernel
theorem dX6_land_36 : decode cX6_land 36 = .ok (.putfield 155, 3) := by decide +kernel
theorem dX6_land_39 : decode cX6_land 39 = .ok (.iload_n 2, 1) := by decide +kernel
theorem dX6_land_40 : decode cX6_land 40 = .ok (.iconst (-1), 1) := by decide +kernel
theorem dX6_land_41 : decode cX6_land 41 = .ok (.if_icmp .eq 15, 3) := by decide +kernel
theorem dX6_land_44 : decode cX6_land 44 = .ok (.aload_n 0, 1) := by decide +kernel
theorem dX6_land_45 : decode cX6_land 45 = .ok (.bipush (-2), 2) := by decide +kernel
theorem dX6_land_47 : decode cX6_land 47 = .ok (.invokevirtual 61, 3) := by decide +kernel
theorem dX6_land_50 : decode cX6_land 50 = .ok (.pop, 1) := by decide +kernel
theorem dX6_land_51 : decode cX6_land 51 = .ok (.bipush (-20), 2) := by decide +kernel
theorem dX6_land_53 : decode cX6_land 53 = .ok (.iload_n 2, 1) := by decide +kernel
theorem dX6_land_54 : decode cX6_land 54 = .ok (.isub, 1) := by decide +kernel
theorem dX6_land_55 : decode cX6_land 55 = .ok (.ireturn, 1) := by decide +kernel
theorem dX6_roadOf_0 : decode cX6_roadOf 0 = .ok (.aload_n 0, 1) := by decide +kernel
theorem dX6_roadOf_1 : decode cX6_roadOf 1 = .ok (.iload_n 1, 1) := by decide +kernel
theorem dX6_roadOf_2 : decode cX6_roadOf 2 = .ok (.invokevirtual 143, 3) := by decide +kernel
theorem dX6_roadOf_5 : decode cX6_roadOf 5 = .ok (.ifCond .ne 10, 3) := by decide +kernel
theorem dX6_roadOf_8 : decode cX6_roadOf 8 = .ok (.aload_n 0, 1) := by decide +kernel
theorem dX6_roadOf_9 : decode cX6_roadOf 9 = .ok (.bipush (-2), 2) := by decide +kernel
theorem dX6_roadOf_11 : decode cX6_roadOf 11 = .ok (.invokevirtual 61, 3) := by decide +kernel
theorem dX6_roadOf_14 : decode cX6_roadOf 14 = .ok (.ireturn, 1) := by decide +kernel
theorem dX6_oneOf_0 : decode cX6_oneOf 0 = .ok (.aload_n 0, 1) := by decide +kernel
theorem dX6_oneOf_1 : decode cX6_oneOf 1 = .ok (.iload_n 1, 1) := by decide +kernel
theorem dX6_oneOf_2 : decode cX6_oneOf 2 = .ok (.invokevirtual 182, 3) := by decide +kernel
theorem dX6_oneOf_5 : decode cX6_oneOf 5 = .ok (.ifCond .ne 10, 3) := by decide +kernel
theorem dX6_oneOf_8 : decode cX6_oneOf 8 = .ok (.aload_n 0, 1) := by decide +kernel
theorem dX6_oneOf_9 : decode cX6_oneOf 9 = .ok (.bipush (-2), 2) := by decide +kernel
theorem dX6_oneOf_11 : decode cX6_oneOf 11 = .ok (.invokevirtual 61, 3) := by decide +kernel
theorem dX6_oneOf_14 : decode cX6_oneOf 14 = .ok (.ireturn, 1) := by decide +kernel
theorem dX6_when_0 : decode cX6_when 0 = .ok (.aload_n 0, 1) := by decide +kernel
theorem dX6_when_1 : decode cX6_when 1 = .ok (.iload_n 1, 1) := by decide +kernel
theorem dX6_when_2 : decode cX6_when 2 = .ok (.invokevirtual 182, 3) := by decide +kernel
theorem dX6_when_5 : decode cX6_when 5 = .ok (.ifCond .eq 23, 3) := by decide +kernel
theorem dX6_when_28 : decode cX6_when 28 = .ok (.aload_n 0, 1) := by decide +kernel
theorem dX6_when_29 : decode cX6_when 29 = .ok (.bipush (-2), 2) := by decide +kernel
theorem dX6_when_31 : decode cX6_when 31 = .ok (.invokevirtual 61, 3) := by decide +kernel
theorem dX6_when_34 : decode cX6_when 34 = .ok (.ireturn, 1) := by decide +kernel
theorem dX6_left_0 : decode cX6_left 0 = .ok (.aload_n 0, 1) := by decide +kernel
theorem dX6_left_1 : decode cX6_left 1 = .ok (.iload_n 1, 1) := by decide +kernel
theorem dX6_left_2 : decode cX6_left 2 = .ok (.invokevirtual 182, 3) := by decide +kernel
theorem dX6_left_5 : decode cX6_left 5 = .ok (.ifCond .eq 14, 3) := by decide +kernel
theorem dX6_left_19 : decode cX6_left 19 = .ok (.aload_n 0, 1) := by decide +kernel
theorem dX6_left_20 : decode cX6_left 20 = .ok (.bipush (-2), 2) := by decide +kernel
theorem dX6_left_22 : decode cX6_left 22 = .ok (.invokevirtual 61, 3) := by decide +kernel
theorem dX6_left_25 : decode cX6_left 25 = .ok (.ireturn, 1) := by decide +kernel
theorem dX6_here_0 : decode cX6_here 0 = .ok (.aload_n 0, 1) := by decide +kernel
theorem dX6_here_1 : decode cX6_here 1 = .ok (.iload_n 1, 1) := by decide +kernel
theorem dX6_here_2 : decode cX6_here 2 = .ok (.invokevirtual 182, 3) := by decide +kernel
theorem dX6_here_5 : decode cX6_here 5 = .ok (.ifCond .eq 14, 3) := by decide +kernel
theorem dX6_here_19 : decode cX6_here 19 = .ok (.aload_n 0, 1) := by decide +kernel
theorem dX6_here_20 : decode cX6_here 20 = .ok (.bipush (-2), 2) := by decide +kernel
theorem dX6_here_22 : decode cX6_here 22 = .ok (.invokevirtual 61, 3) := by decide +kernel
theorem dX6_here_25 : decode cX6_here 25 = .ok (.ireturn, 1) := by decide +kernel
theorem dX6_reach_0 : decode cX6_reach 0 = .ok (.aload_n 0, 1) := by decide +kernel
theorem dX6_reach_1 : decode cX6_reach 1 = .ok (.iload_n 1, 1) := by decide +kernel
theorem dX6_reach_2 : decode cX6_reach 2 = .ok (.invokevirtual 182, 3) := by decide +kernel
theorem dX6_reach_5 : decode cX6_reach 5 = .ok (.ifCond .eq 14, 3) := by decide +kernel
theorem dX6_reach_19 : decode cX6_reach 19 = .ok (.aload_n 0, 1) := by decide +kernel
theorem dX6_reach_20 : decode cX6_reach 20 = .ok (.bipush (-2), 2) := by decide +kernel
theorem dX6_reach_22 : decode cX6_reach 22 = .ok (.invokevirtual 61, 3) := by decide +kernel
theorem dX6_reach_25 : decode cX6_reach 25 = .ok (.ireturn, 1) := by decide +kernel
theorem dX6_safe_0 : decode cX6_safe 0 = .ok (.aload_n 0, 1) := by decide +kernel
theorem dX6_safe_1 : decode cX6_safe 1 = .ok (.iload_n 1, 1) := by decide +kernel
theorem dX6_safe_2 : decode cX6_safe 2 = .ok (.invokevirtual 182, 3) := by decide +kernel
theorem dX6_safe_5 : decode cX6_safe 5 = .ok (.ifCond .ne 10, 3) := by decide +kernel
theorem dX6_safe_8 : decode cX6_safe 8 = .ok (.aload_n 0, 1) := by decide +kernel
theorem dX6_safe_9 : decode cX6_safe 9 = .ok (.bipush (-2), 2) := by decide +kernel
theorem dX6_safe_11 : decode cX6_safe 11 = .ok (.invokevirtual 61, 3) := by decide +kernel
theorem dX6_safe_14 : decode cX6_safe 14 = .ok (.ireturn, 1) := by decide +kernel
theorem dX6_go_0 : decode cX6_go 0 = .ok (.aload_n 0, 1) := by decide +kernel
theorem dX6_go_1 : decode cX6_go 1 = .ok (.iload_n 1, 1) := by decide +kernel
theorem dX6_go_2 : decode cX6_go 2 = .ok (.invokevirtual 182, 3) := by decide +kernel
theorem dX6_go_5 : decode cX6_go 5 = .ok (.ifCond .eq 11, 3) := by decide +kernel
theorem dX6_go_16 : decode cX6_go 16 = .ok (.aload_n 0, 1) := by decide +kernel
theorem dX6_go_17 : decode cX6_go 17 = .ok (.bipush (-2), 2) := by decide +kernel
theorem dX6_go_19 : decode cX6_go 19 = .ok (.invokevirtual 61, 3) := by decide +kernel
theorem dX6_go_22 : decode cX6_go 22 = .ok (.ireturn, 1) := by decide +kernel
theorem dX6_next_0 : decode cX6_next 0 = .ok (.iload_n 1, 1) := by decide +kernel
theorem dX6_next_1 : decode cX6_next 1 = .ok (.invokestatic 53, 3) := by decide +kernel
theorem dX6_next_4 : decode cX6_next 4 = .ok (.ifCond .eq 11, 3) := by decide +kernel
theorem dX6_next_7 : decode cX6_next 7 = .ok (.aload_n 0, 1) := by decide +kernel
theorem dX6_next_8 : decode cX6_next 8 = .ok (.iload_n 2, 1) := by decide +kernel
theorem dX6_next_9 : decode cX6_next 9 = .ok (.invokevirtual 182, 3) := by decide +kernel
theorem dX6_next_12 : decode cX6_next 12 = .ok (.ifCond .ne 10, 3) := by decide +kernel
theorem dX6_next_15 : decode cX6_next 15 = .ok (.aload_n 0, 1) := by decide +kernel
theorem dX6_next_16 : decode cX6_next 16 = .ok (.bipush (-2), 2) := by decide +kernel
theorem dX6_next_18 : decode cX6_next 18 = .ok (.invokevirtual 61, 3) := by decide +kernel
theorem dX6_next_21 : decode cX6_next 21 = .ok (.ireturn, 1) := by decide +kernel
theorem dX6_run_0 : decode cX6_run 0 = .ok (.iload_n 1, 1) := by decide +kernel
theorem dX6_run_1 : decode cX6_run 1 = .ok (.invokestatic 53, 3) := by decide +kernel
theorem dX6_run_4 : decode cX6_run 4 = .ok (.ifCond .eq 31, 3) := by decide +kernel
theorem dX6_run_7 : decode cX6_run 7 = .ok (.aload_n 0, 1) := by decide +kernel
theorem dX6_run_8 : decode cX6_run 8 = .ok (.iload_n 2, 1) := by decide +kernel
theorem dX6_run_9 : decode cX6_run 9 = .ok (.invokevirtual 182, 3) := by decide +kernel
theorem dX6_run_12 : decode cX6_run 12 = .ok (.ifCond .eq 23, 3) := by decide +kernel
theorem dX6_run_35 : decode cX6_run 35 = .ok (.aload_n 0, 1) := by decide +kernel
theorem dX6_run_36 : decode cX6_run 36 = .ok (.bipush (-2), 2) := by decide +kernel
theorem dX6_run_38 : decode cX6_run 38 = .ok (.invokevirtual 61, 3) := by decide +kernel
theorem dX6_run_41 : decode cX6_run 41 = .ok (.ireturn, 1) := by decide +kernel
theorem dX6_head_0 : decode cX6_head 0 = .ok (.aload_n 0, 1) := by decide +kernel
theorem dX6_head_1 : decode cX6_head 1 = .ok (.iload_n 1, 1) := by decide +kernel
theorem dX6_head_2 : decode cX6_head 2 = .ok (.invokevirtual 182, 3) := by decide +kernel
theorem dX6_head_5 : decode cX6_head 5 = .ok (.ifCond .ne 10, 3) := by decide +kernel
theorem dX6_head_8 : decode cX6_head 8 = .ok (.aload_n 0, 1) := by decide +kernel
theorem dX6_head_9 : decode cX6_head 9 = .ok (.bipush (-2), 2) := by decide +kernel
theorem dX6_head_11 : decode cX6_head 11 = .ok (.invokevirtual 61, 3) := by decide +kernel
theorem dX6_head_14 : decode cX6_head 14 = .ok (.ireturn, 1) := by decide +kernel
theorem dX6_lives_0 : decode cX6_lives 0 = .ok (.iload_n 1, 1) := by decide +kernel
theorem dX6_lives_1 : decode cX6_lives 1 = .ok (.invokestatic 53, 3) := by decide +kernel
theorem dX6_lives_4 : decode cX6_lives 4 = .ok (.ifCond .eq 21, 3) := by decide +kernel
theorem dX6_lives_7 : decode cX6_lives 7 = .ok (.aload_n 0, 1) := by decide +kernel
theorem dX6_lives_8 : decode cX6_lives 8 = .ok (.iload_n 2, 1) := by decide +kernel
theorem dX6_lives_9 : decode cX6_lives 9 = .ok (.invokevirtual 182, 3) := by decide +kernel
theorem dX6_lives_12 : decode cX6_lives 12 = .ok (.ifCond .eq 13, 3) := by decide +kernel
theorem dX6_lives_25 : decode cX6_lives 25 = .ok (.aload_n 0, 1) := by decide +kernel
theorem dX6_lives_26 : decode cX6_lives 26 = .ok (.bipush (-2), 2) := by decide +kernel
theorem dX6_lives_28 : decode cX6_lives 28 = .ok (.invokevirtual 61, 3) := by decide +kernel
theorem dX6_lives_31 : decode cX6_lives 31 = .ok (.ireturn, 1) := by decide +kernel
theorem dX6_judge_0 : decode cX6_judge 0 = .ok (.aload_n 0, 1) := by decide +kernel
theorem dX6_judge_1 : decode cX6_judge 1 = .ok (.iload_n 1, 1) := by decide +kernel
theorem dX6_judge_2 : decode cX6_judge 2 = .ok (.invokevirtual 182, 3) := by decide +kernel
theorem dX6_judge_5 : decode cX6_judge 5 = .ok (.ifCond .eq 20, 3) := by decide +kernel
theorem dX6_judge_25 : decode cX6_judge 25 = .ok (.aload_n 0, 1) := by decide +kernel
theorem dX6_judge_26 : decode cX6_judge 26 = .ok (.bipush (-2), 2) := by decide +kernel
theorem dX6_judge_28 : decode cX6_judge 28 = .ok (.invokevirtual 61, 3) := by decide +kernel
theorem dX6_judge_31 : decode cX6_judge 31 = .ok (.ireturn, 1) := by decide +kernel
theorem dX6_told_0 : decode cX6_told 0 = .ok (.aload_n 0, 1) := by decide +kernel
theorem dX6_told_1 : decode cX6_told 1 = .ok (.iload_n 1, 1) := by decide +kernel
theorem dX6_told_2 : decode cX6_told 2 = .ok (.invokevirtual 182, 3) := by decide +kernel
theorem dX6_told_5 : decode cX6_told 5 = .ok (.ifCond .eq 30, 3) := by decide +kernel
theorem dX6_told_35 : decode cX6_told 35 = .ok (.aload_n 0, 1) := by decide +kernel
theorem dX6_told_36 : decode cX6_told 36 = .ok (.bipush (-2), 2) := by decide +kernel
theorem dX6_told_38 : decode cX6_told 38 = .ok (.invokevirtual 61, 3) := by decide +kernel
theorem dX6_told_41 : decode cX6_told 41 = .ok (.ireturn, 1) := by decide +kernel
theorem dX6_law_0 : decode cX6_law 0 = .ok (.aload_n 0, 1) := by decide +kernel
theorem dX6_law_1 : decode cX6_law 1 = .ok (.iload_n 1, 1) := by decide +kernel
theorem dX6_law_2 : decode cX6_law 2 = .ok (.invokevirtual 182, 3) := by decide +kernel
theorem dX6_law_5 : decode cX6_law 5 = .ok (.ifCond .eq 12, 3) := by decide +kernel
theorem dX6_law_17 : decode cX6_law 17 = .ok (.aload_n 0, 1) := by decide +kernel
theorem dX6_law_18 : decode cX6_law 18 = .ok (.bipush (-2), 2) := by decide +kernel
theorem dX6_law_20 : decode cX6_law 20 = .ok (.invokevirtual 61, 3) := by decide +kernel
theorem dX6_law_23 : decode cX6_law 23 = .ok (.ireturn, 1) := by decide +kernel
theorem dX6_all_0 : decode cX6_all 0 = .ok (.aload_n 0, 1) := by decide +kernel
theorem dX6_all_1 : decode cX6_all 1 = .ok (.iload_n 1, 1) := by decide +kernel
theorem dX6_all_2 : decode cX6_all 2 = .ok (.invokevirtual 182, 3) := by decide +kernel
theorem dX6_all_5 : decode cX6_all 5 = .ok (.ifCond .eq 30, 3) := by decide +kernel
theorem dX6_all_35 : decode cX6_all 35 = .ok (.aload_n 0, 1) := by decide +kernel
theorem dX6_all_36 : decode cX6_all 36 = .ok (.bipush (-2), 2) := by decide +kernel
theorem dX6_all_38 : decode cX6_all 38 = .ok (.invokevirtual 61, 3) := by decide +kernel
theorem dX6_all_41 : decode cX6_all 41 = .ok (.ireturn, 1) := by decide +kernel
theorem dX6_way_0 : decode cX6_way 0 = .ok (.aload_n 0, 1) := by decide +kernel
theorem dX6_way_1 : decode cX6_way 1 = .ok (.iload_n 1, 1) := by decide +kernel
theorem dX6_way_2 : decode cX6_way 2 = .ok (.invokevirtual 182, 3) := by decide +kernel
theorem dX6_way_5 : decode cX6_way 5 = .ok (.ifCond .eq 24, 3) := by decide +kernel
theorem dX6_way_29 : decode cX6_way 29 = .ok (.aload_n 0, 1) := by decide +kernel
theorem dX6_way_30 : decode cX6_way 30 = .ok (.bipush (-2), 2) := by decide +kernel
theorem dX6_way_32 : decode cX6_way 32 = .ok (.invokevirtual 61, 3) := by decide +kernel
theorem dX6_way_35 : decode cX6_way 35 = .ok (.ireturn, 1) := by decide +kernel
theorem dX6_lacks_0 : decode cX6_lacks 0 = .ok (.aload_n 0, 1) := by decide +kernel
theorem dX6_lacks_1 : decode cX6_lacks 1 = .ok (.iload_n 1, 1) := by decide +kernel
theorem dX6_lacks_2 : decode cX6_lacks 2 = .ok (.invokevirtual 182, 3) := by decide +kernel
theorem dX6_lacks_5 : decode cX6_lacks 5 = .ok (.ifCond .eq 21, 3) := by decide +kernel
theorem dX6_lacks_26 : decode cX6_lacks 26 = .ok (.aload_n 0, 1) := by decide +kernel
theorem dX6_lacks_27 : decode cX6_lacks 27 = .ok (.bipush (-2), 2) := by decide +kernel
theorem dX6_lacks_29 : decode cX6_lacks 29 = .ok (.invokevirtual 61, 3) := by decide +kernel
theorem dX6_lacks_32 : decode cX6_lacks 32 = .ok (.ireturn, 1) := by decide +kernel
theorem dX6_longest_0 : decode cX6_longest 0 = .ok (.aload_n 0, 1) := by decide +kernel
theorem dX6_longest_1 : decode cX6_longest 1 = .ok (.iload_n 1, 1) := by decide +kernel
theorem dX6_longest_2 : decode cX6_longest 2 = .ok (.invokevirtual 182, 3) := by decide +kernel
theorem dX6_longest_5 : decode cX6_longest 5 = .ok (.ifCond .eq 12, 3) := by decide +kernel
theorem dX6_longest_17 : decode cX6_longest 17 = .ok (.aload_n 0, 1) := by decide +kernel
theorem dX6_longest_18 : decode cX6_longest 18 = .ok (.bipush (-2), 2) := by decide +kernel
theorem dX6_longest_20 : decode cX6_longest 20 = .ok (.invokevirtual 61, 3) := by decide +kernel
theorem dX6_longest_23 : decode cX6_longest 23 = .ok (.ireturn, 1) := by decide +kernel
theorem dX6_errands_0 : decode cX6_errands 0 = .ok (.aload_n 0, 1) := by decide +kernel
theorem dX6_errands_1 : decode cX6_errands 1 = .ok (.iload_n 1, 1) := by decide +kernel
theorem dX6_errands_2 : decode cX6_errands 2 = .ok (.invokevirtual 182, 3) := by decide +kernel
theorem dX6_errands_5 : decode cX6_errands 5 = .ok (.ifCond .eq 22, 3) := by decide +kernel
theorem dX6_errands_27 : decode cX6_errands 27 = .ok (.aload_n 0, 1) := by decide +kernel
theorem dX6_errands_28 : decode cX6_errands 28 = .ok (.bipush (-2), 2) := by decide +kernel
theorem dX6_errands_30 : decode cX6_errands 30 = .ok (.invokevirtual 61, 3) := by decide +kernel
theorem dX6_errands_33 : decode cX6_errands 33 = .ok (.ireturn, 1) := by decide +kernel
theorem dX6_cut_0 : decode cX6_cut 0 = .ok (.aload_n 0, 1) := by decide +kernel
theorem dX6_cut_1 : decode cX6_cut 1 = .ok (.iload_n 1, 1) := by decide +kernel
theorem dX6_cut_2 : decode cX6_cut 2 = .ok (.invokevirtual 182, 3) := by decide +kernel
theorem dX6_cut_5 : decode cX6_cut 5 = .ok (.ifCond .eq 22, 3) := by decide +kernel
theorem dX6_cut_27 : decode cX6_cut 27 = .ok (.aload_n 0, 1) := by decide +kernel
theorem dX6_cut_28 : decode cX6_cut 28 = .ok (.bipush (-2), 2) := by decide +kernel
theorem dX6_cut_30 : decode cX6_cut 30 = .ok (.invokevirtual 61, 3) := by decide +kernel
theorem dX6_cut_33 : decode cX6_cut 33 = .ok (.ireturn, 1) := by decide +kernel
theorem dX6_meets_0 : decode cX6_meets 0 = .ok (.aload_n 0, 1) := by decide +kernel
theorem dX6_meets_1 : decode cX6_meets 1 = .ok (.iload_n 1, 1) := by decide +kernel
theorem dX6_meets_2 : decode cX6_meets 2 = .ok (.invokevirtual 182, 3) := by decide +kernel
theorem dX6_meets_5 : decode cX6_meets 5 = .ok (.ifCond .eq 20, 3) := by decide +kernel
theorem dX6_meets_25 : decode cX6_meets 25 = .ok (.aload_n 0, 1) := by decide +kernel
theorem dX6_meets_26 : decode cX6_meets 26 = .ok (.bipush (-2), 2) := by decide +kernel
theorem dX6_meets_28 : decode cX6_meets 28 = .ok (.invokevirtual 61, 3) := by decide +kernel
theorem dX6_meets_31 : decode cX6_meets 31 = .ok (.ireturn, 1) := by decide +kernel
theorem dX6_near_0 : decode cX6_near 0 = .ok (.aload_n 0, 1) := by decide +kernel
theorem dX6_near_1 : decode cX6_near 1 = .ok (.iload_n 1, 1) := by decide +kernel
theorem dX6_near_2 : decode cX6_near 2 = .ok (.invokevirtual 182, 3) := by decide +kernel
theorem dX6_near_5 : decode cX6_near 5 = .ok (.ifCond .eq 10, 3) := by decide +kernel
theorem dX6_near_15 : decode cX6_near 15 = .ok (.aload_n 0, 1) := by decide +kernel
theorem dX6_near_16 : decode cX6_near 16 = .ok (.bipush (-2), 2) := by decide +kernel
theorem dX6_near_18 : decode cX6_near 18 = .ok (.invokevirtual 61, 3) := by decide +kernel
theorem dX6_near_21 : decode cX6_near 21 = .ok (.ireturn, 1) := by decide +kernel
theorem dX6_together_0 : decode cX6_together 0 = .ok (.aload_n 0, 1) := by decide +kernel
theorem dX6_together_1 : decode cX6_together 1 = .ok (.iload_n 1, 1) := by decide +kernel
theorem dX6_together_2 : decode cX6_together 2 = .ok (.invokevirtual 182, 3) := by decide +kernel
theorem dX6_together_5 : decode cX6_together 5 = .ok (.ifCond .eq 25, 3) := by decide +kernel
theorem dX6_together_30 : decode cX6_together 30 = .ok (.aload_n 0, 1) := by decide +kernel
theorem dX6_together_31 : decode cX6_together 31 = .ok (.bipush (-2), 2) := by decide +kernel
theorem dX6_together_33 : decode cX6_together 33 = .ok (.invokevirtual 61, 3) := by decide +kernel
theorem dX6_together_36 : decode cX6_together 36 = .ok (.ireturn, 1) := by decide +kernel
theorem dX6_frees_0 : decode cX6_frees 0 = .ok (.aload_n 0, 1) := by decide +kernel
theorem dX6_frees_1 : decode cX6_frees 1 = .ok (.iload_n 1, 1) := by decide +kernel
theorem dX6_frees_2 : decode cX6_frees 2 = .ok (.invokevirtual 182, 3) := by decide +kernel
theorem dX6_frees_5 : decode cX6_frees 5 = .ok (.ifCond .ne 10, 3) := by decide +kernel
theorem dX6_frees_8 : decode cX6_frees 8 = .ok (.aload_n 0, 1) := by decide +kernel
theorem dX6_frees_9 : decode cX6_frees 9 = .ok (.bipush (-2), 2) := by decide +kernel
theorem dX6_frees_11 : decode cX6_frees 11 = .ok (.invokevirtual 61, 3) := by decide +kernel
theorem dX6_frees_14 : decode cX6_frees 14 = .ok (.ireturn, 1) := by decide +kernel
theorem dX6_send_0 : decode cX6_send 0 = .ok (.aload_n 0, 1) := by decide +kernel
theorem dX6_send_1 : decode cX6_send 1 = .ok (.iload_n 1, 1) := by decide +kernel
theorem dX6_send_2 : decode cX6_send 2 = .ok (.invokevirtual 182, 3) := by decide +kernel
theorem dX6_send_5 : decode cX6_send 5 = .ok (.ifCond .eq 11, 3) := by decide +kernel
theorem dX6_send_16 : decode cX6_send 16 = .ok (.aload_n 0, 1) := by decide +kernel
theorem dX6_send_17 : decode cX6_send 17 = .ok (.bipush (-2), 2) := by decide +kernel
theorem dX6_send_19 : decode cX6_send 19 = .ok (.invokevirtual 61, 3) := by decide +kernel
theorem dX6_send_22 : decode cX6_send 22 = .ok (.ireturn, 1) := by decide +kernel
theorem dX6_wander_0 : decode cX6_wander 0 = .ok (.aload_n 0, 1) := by decide +kernel
theorem dX6_wander_1 : decode cX6_wander 1 = .ok (.iload_n 1, 1) := by decide +kernel
theorem dX6_wander_2 : decode cX6_wander 2 = .ok (.invokevirtual 182, 3) := by decide +kernel
theorem dX6_wander_5 : decode cX6_wander 5 = .ok (.ifCond .eq 13, 3) := by decide +kernel
theorem dX6_wander_18 : decode cX6_wander 18 = .ok (.aload_n 0, 1) := by decide +kernel
theorem dX6_wander_19 : decode cX6_wander 19 = .ok (.bipush (-2), 2) := by decide +kernel
theorem dX6_wander_21 : decode cX6_wander 21 = .ok (.invokevirtual 61, 3) := by decide +kernel
theorem dX6_wander_24 : decode cX6_wander 24 = .ok (.ireturn, 1) := by decide +kernel
theorem dX6_year_0 : decode cX6_year 0 = .ok (.aload_n 0, 1) := by decide +kernel
theorem dX6_year_1 : decode cX6_year 1 = .ok (.getfield 10, 3) := by decide +kernel
theorem dX6_year_4 : decode cX6_year 4 = .ok (.dup, 1) := by decide +kernel
theorem dX6_year_5 : decode cX6_year 5 = .ok (.getfield 216, 3) := by decide +kernel
theorem dX6_year_8 : decode cX6_year 8 = .ok (.iconst 1, 1) := by decide +kernel
theorem dX6_year_9 : decode cX6_year 9 = .ok (.iadd, 1) := by decide +kernel
theorem dX6_year_10 : decode cX6_year 10 = .ok (.putfield 216, 3) := by decide +kernel
theorem dX6_year_13 : decode cX6_year 13 = .ok (.aload_n 0, 1) := by decide +kernel
theorem dX6_year_14 : decode cX6_year 14 = .ok (.getfield 10, 3) := by decide +kernel
theorem dX6_year_17 : decode cX6_year 17 = .ok (.getfield 216, 3) := by decide +kernel
theorem dX6_year_20 : decode cX6_year 20 = .ok (.ireturn, 1) := by decide +kernel
theorem dX6_fast_0 : decode cX6_fast 0 = .ok (.iconst 0, 1) := by decide +kernel
theorem dX6_fast_1 : decode cX6_fast 1 = .ok (.istore_n 2, 1) := by decide +kernel
theorem dX6_fast_2 : decode cX6_fast 2 = .ok (.iconst 0, 1) := by decide +kernel
theorem dX6_fast_3 : decode cX6_fast 3 = .ok (.istore_n 3, 1) := by decide +kernel
theorem dX6_fast_4 : decode cX6_fast 4 = .ok (.iload_n 3, 1) := by decide +kernel
theorem dX6_fast_5 : decode cX6_fast 5 = .ok (.aload_n 0, 1) := by decide +kernel
theorem dX6_fast_6 : decode cX6_fast 6 = .ok (.getfield 10, 3) := by decide +kernel
theorem dX6_fast_9 : decode cX6_fast 9 = .ok (.getfield 123, 3) := by decide +kernel
theorem dX6_fast_12 : decode cX6_fast 12 = .ok (.if_icmp .ge 61, 3) := by decide +kernel
theorem dX6_fast_73 : decode cX6_fast 73 = .ok (.iload_n 2, 1) := by decide +kernel
theorem dX6_fast_74 : decode cX6_fast 74 = .ok (.ireturn, 1) := by decide +kernel
theorem dX6_seed_0 : decode cX6_seed 0 = .ok (.aload_n 0, 1) := by decide +kernel
theorem dX6_seed_1 : decode cX6_seed 1 = .ok (.getfield 10, 3) := by decide +kernel
theorem dX6_seed_4 : decode cX6_seed 4 = .ok (.getfield 299, 3) := by decide +kernel
theorem dX6_seed_7 : decode cX6_seed 7 = .ok (.istore_n 2, 1) := by decide +kernel
theorem dX6_seed_8 : decode cX6_seed 8 = .ok (.aload_n 0, 1) := by decide +kernel
theorem dX6_seed_9 : decode cX6_seed 9 = .ok (.getfield 10, 3) := by decide +kernel
theorem dX6_seed_12 : decode cX6_seed 12 = .ok (.iload_n 1, 1) := by decide +kernel
theorem dX6_seed_13 : decode cX6_seed 13 = .ok (.putfield 299, 3) := by decide +kernel
theorem dX6_seed_16 : decode cX6_seed 16 = .ok (.iload_n 2, 1) := by decide +kernel
theorem dX6_seed_17 : decode cX6_seed 17 = .ok (.ireturn, 1) := by decide +kernel
theorem dX6_image_0 : decode cX6_image 0 = .ok (.aload_n 0, 1) := by decide +kernel
theorem dX6_image_1 : decode cX6_image 1 = .ok (.getfield 16, 3) := by decide +kernel
theorem dX6_image_4 : decode cX6_image 4 = .ok (.aload_n 0, 1) := by decide +kernel
theorem dX6_image_5 : decode cX6_image 5 = .ok (.getfield 10, 3) := by decide +kernel
theorem dX6_image_8 : decode cX6_image 8 = .ok (.invokevirtual 159, 3) := by decide +kernel
theorem dX6_image_11 : decode cX6_image 11 = .ok (.aload_n 0, 1) := by decide +kernel
theorem dX6_image_12 : decode cX6_image 12 = .ok (.iconst 1, 1) := by decide +kernel
theorem dX6_image_13 : decode cX6_image 13 = .ok (.putfield 302, 3) := by decide +kernel
theorem dX6_image_16 : decode cX6_image 16 = .ok (.iconst 1, 1) := by decide +kernel
theorem dX6_image_17 : decode cX6_image 17 = .ok (.ireturn, 1) := by decide +kernel
theorem dX6_back_0 : decode cX6_back 0 = .ok (.aload_n 0, 1) := by decide +kernel
theorem dX6_back_1 : decode cX6_back 1 = .ok (.getfield 302, 3) := by decide +kernel
theorem dX6_back_4 : decode cX6_back 4 = .ok (.ifCond .ne 10, 3) := by decide +kernel
theorem dX6_back_7 : decode cX6_back 7 = .ok (.aload_n 0, 1) := by decide +kernel
theorem dX6_back_8 : decode cX6_back 8 = .ok (.bipush (-5), 2) := by decide +kernel
theorem dX6_back_10 : decode cX6_back 10 = .ok (.invokevirtual 61, 3) := by decide +kernel
theorem dX6_back_13 : decode cX6_back 13 = .ok (.ireturn, 1) := by decide +kernel
theorem dX6_filledShelves_0 : decode cX6_filledShelves 0 = .ok (.iconst 0, 1) := by decide +kernel
theorem dX6_filledShelves_1 : decode cX6_filledShelves 1 = .ok (.istore_n 1, 1) := by decide +kernel
theorem dX6_filledShelves_2 : decode cX6_filledShelves 2 = .ok (.iconst 0, 1) := by decide +kernel
theorem dX6_filledShelves_3 : decode cX6_filledShelves 3 = .ok (.istore_n 2, 1) := by decide +kernel
theorem dX6_filledShelves_4 : decode cX6_filledShelves 4 = .ok (.iload_n 2, 1) := by decide +kernel
theorem dX6_filledShelves_5 : decode cX6_filledShelves 5 = .ok (.bipush 8, 2) := by decide +kernel
theorem dX6_filledShelves_7 : decode cX6_filledShelves 7 = .ok (.if_icmp .ge 24, 3) := by decide +kernel
theorem dX6_filledShelves_10 : decode cX6_filledShelves 10 = .ok (.aload_n 0, 1) := by decide +kernel
theorem dX6_filledShelves_11 : decode cX6_filledShelves 11 = .ok (.getfield 31, 3) := by decide +kernel
theorem dX6_filledShelves_14 : decode cX6_filledShelves 14 = .ok (.iload_n 2, 1) := by decide +kernel
theorem dX6_filledShelves_15 : decode cX6_filledShelves 15 = .ok (.aaload, 1) := by decide +kernel
theorem dX6_filledShelves_16 : decode cX6_filledShelves 16 = .ok (.invokevirtual 312, 3) := by decide +kernel
theorem dX6_filledShelves_19 : decode cX6_filledShelves 19 = .ok (.ifCond .ne 6, 3) := by decide +kernel
theorem dX6_filledShelves_25 : decode cX6_filledShelves 25 = .ok (.iinc 2 1, 3) := by decide +kernel
theorem dX6_filledShelves_28 : decode cX6_filledShelves 28 = .ok (.goto (-24), 3) := by decide +kernel
theorem dX6_filledShelves_31 : decode cX6_filledShelves 31 = .ok (.iload_n 1, 1) := by decide +kernel
theorem dX6_filledShelves_32 : decode cX6_filledShelves 32 = .ok (.ireturn, 1) := by decide +kernel
theorem dX6_status_0 : decode cX6_status 0 = .ok (.iload_n 1, 1) := by decide +kernel
theorem dX6_status_1 : decode cX6_status 1 = .ok (.tableswitch 123 0 8 #[51, 59, 67, 75, 83, 91, 99, 107, 112], 51) := by decide +kernel
theorem dX6_status_52 : decode cX6_status 52 = .ok (.aload_n 0, 1) := by decide +kernel
theorem dX6_status_53 : decode cX6_status 53 = .ok (.getfield 10, 3) := by decide +kernel
theorem dX6_status_56 : decode cX6_status 56 = .ok (.getfield 133, 3) := by decide +kernel
theorem dX6_status_59 : decode cX6_status 59 = .ok (.ireturn, 1) := by decide +kernel
theorem dX6_status_60 : decode cX6_status 60 = .ok (.aload_n 0, 1) := by decide +kernel
theorem dX6_status_61 : decode cX6_status 61 = .ok (.getfield 10, 3) := by decide +kernel
theorem dX6_status_64 : decode cX6_status 64 = .ok (.getfield 123, 3) := by decide +kernel
theorem dX6_status_67 : decode cX6_status 67 = .ok (.ireturn, 1) := by decide +kernel
theorem dX6_status_68 : decode cX6_status 68 = .ok (.aload_n 0, 1) := by decide +kernel
theorem dX6_status_69 : decode cX6_status 69 = .ok (.getfield 10, 3) := by decide +kernel
theorem dX6_status_72 : decode cX6_status 72 = .ok (.getfield 216, 3) := by decide +kernel
theorem dX6_status_75 : decode cX6_status 75 = .ok (.ireturn, 1) := by decide +kernel
theorem dX6_status_76 : decode cX6_status 76 = .ok (.aload_n 0, 1) := by decide +kernel
theorem dX6_status_77 : decode cX6_status 77 = .ok (.getfield 10, 3) := by decide +kernel
theorem dX6_status_80 : decode cX6_status 80 = .ok (.getfield 152, 3) := by decide +kernel
theorem dX6_status_83 : decode cX6_status 83 = .ok (.ireturn, 1) := by decide +kernel
theorem dX6_status_84 : decode cX6_status 84 = .ok (.aload_n 0, 1) := by decide +kernel
theorem dX6_status_85 : decode cX6_status 85 = .ok (.getfield 10, 3) := by decide +kernel
theorem dX6_status_88 : decode cX6_status 88 = .ok (.invokevirtual 306, 3) := by decide +kernel
theorem dX6_status_91 : decode cX6_status 91 = .ok (.ireturn, 1) := by decide +kernel
theorem dX6_status_92 : decode cX6_status 92 = .ok (.aload_n 0, 1) := by decide +kernel
theorem dX6_status_93 : decode cX6_status 93 = .ok (.getfield 25, 3) := by decide +kernel
theorem dX6_status_96 : decode cX6_status 96 = .ok (.getfield 155, 3) := by decide +kernel
theorem dX6_status_99 : decode cX6_status 99 = .ok (.ireturn, 1) := by decide +kernel
theorem dX6_status_100 : decode cX6_status 100 = .ok (.aload_n 0, 1) := by decide +kernel
theorem dX6_status_101 : decode cX6_status 101 = .ok (.getfield 10, 3) := by decide +kernel
theorem dX6_status_104 : decode cX6_status 104 = .ok (.getfield 299, 3) := by decide +kernel
theorem dX6_status_107 : decode cX6_status 107 = .ok (.ireturn, 1) := by decide +kernel
theorem dX6_status_108 : decode cX6_status 108 = .ok (.aload_n 0, 1) := by decide +kernel
theorem dX6_status_109 : decode cX6_status 109 = .ok (.invokevirtual 309, 3) := by decide +kernel
theorem dX6_status_112 : decode cX6_status 112 = .ok (.ireturn, 1) := by decide +kernel
theorem dX6_status_113 : decode cX6_status 113 = .ok (.aload_n 0, 1) := by decide +kernel
theorem dX6_status_114 : decode cX6_status 114 = .ok (.getfield 10, 3) := by decide +kernel
theorem dX6_status_117 : decode cX6_status 117 = .ok (.getfield 146, 3) := by decide +kernel
theorem dX6_status_120 : decode cX6_status 120 = .ok (.invokestatic 247, 3) := by decide +kernel
theorem dX6_status_123 : decode cX6_status 123 = .ok (.ireturn, 1) := by decide +kernel
theorem dX6_status_124 : decode cX6_status 124 = .ok (.iload_n 1, 1) := by decide +kernel
theorem dX6_status_125 : decode cX6_status 125 = .ok (.bipush 12, 2) := by decide +kernel
theorem dX6_status_127 : decode cX6_status 127 = .ok (.bipush 16, 2) := by decide +kernel
theorem dX6_status_129 : decode cX6_status 129 = .ok (.invokestatic 57, 3) := by decide +kernel
theorem dX6_status_132 : decode cX6_status 132 = .ok (.ifCond .eq 15, 3) := by decide +kernel
theorem dX6_status_135 : decode cX6_status 135 = .ok (.aload_n 0, 1) := by decide +kernel
theorem dX6_status_136 : decode cX6_status 136 = .ok (.getfield 49, 3) := by decide +kernel
theorem dX6_status_139 : decode cX6_status 139 = .ok (.iload_n 1, 1) := by decide +kernel
theorem dX6_status_140 : decode cX6_status 140 = .ok (.bipush 12, 2) := by decide +kernel
theorem dX6_status_142 : decode cX6_status 142 = .ok (.isub, 1) := by decide +kernel
theorem dX6_status_143 : decode cX6_status 143 = .ok (.iaload, 1) := by decide +kernel
theorem dX6_status_144 : decode cX6_status 144 = .ok (.goto 4, 3) := by decide +kernel
theorem dX6_status_147 : decode cX6_status 147 = .ok (.iconst (-1), 1) := by decide +kernel
theorem dX6_status_148 : decode cX6_status 148 = .ok (.ireturn, 1) := by decide +kernel
theorem gx_4 {v : Int32} (h : gx_b v 1 4 = true) : v = 1 ∨ v = 2 ∨ v = 3 ∨ v = 4 := by
  simp only [gx_b, decide_eq_true_eq, Int32.le_iff_toInt_le] at h
  simp only [← Int32.toInt_inj]
  have h1 : (1 : Int32).toInt = 1 := by decide
  have h2 : (2 : Int32).toInt = 2 := by decide
  have h3 : (3 : Int32).toInt = 3 := by decide
  have h4 : (4 : Int32).toInt = 4 := by decide
  omega
theorem gx_b08 {x : Int32} (h0 : ¬ x = 0) (h1 : ¬ x = 1) (h2 : ¬ x = 2) (h3 : ¬ x = 3) (h4 : ¬ x = 4) (h5 : ¬ x = 5) (h6 : ¬ x = 6) (h7 : ¬ x = 7) (h8 : ¬ x = 8) : gx_b x 0 8 = false := by
  have h := gx_out9 h0 h1 h2 h3 h4 h5 h6 h7 h8
  simp only [gx_b, decide_eq_false_iff_not, Int32.le_iff_toInt_le]
  have e0 : (0 : Int32).toInt = 0 := by decide
  have e8 : (8 : Int32).toInt = 8 := by decide
  omega
theorem gx_v12 {v : Int32} (h : gx_b v 12 16 = true) : vp_in (v - 12) 5 := by
  have hv : v = 12 ∨ v = 13 ∨ v = 14 ∨ v = 15 ∨ v = 16 := by
    simp only [gx_b, decide_eq_true_eq, Int32.le_iff_toInt_le] at h
    simp only [← Int32.toInt_inj]
    have h1 : (12 : Int32).toInt = 12 := by decide
    have h2 : (13 : Int32).toInt = 13 := by decide
    have h3 : (14 : Int32).toInt = 14 := by decide
    have h4 : (15 : Int32).toInt = 15 := by decide
    have h5 : (16 : Int32).toInt = 16 := by decide
    omega
  rcases hv with rfl | rfl | rfl | rfl | rfl <;> exact gx_vin (by decide)
def gs_row (sv : Int32) (so : Int32) (nv : Int32) : Int32 := if gx_b sv 0 7 && gx_b so 0 4 && gx_b nv 0 40 then 1 else -2
def gs_set (sv : Int32) : Int32 := if gx_b sv 0 7 then -4 else -2
def gs_copy (pv : Int32) (qv : Int32) : Int32 := if gx_b pv 0 7 && gx_b qv 0 7 then -4 else -2
def gs_rule (sv : Int32) (kv : Int32) (av : Int32) : Int32 := if gx_b sv 0 7 && gx_b kv 1 6 && gx_b av 0 99 then 1 else -2
def gs_says (sv : Int32) (kv : Int32) : Int32 := if gx_b sv 0 7 && gx_b kv 0 6 then -4 else -2
def gs_road (fv : Int32) (tv : Int32) (mv : Int32) : Int32 := if gx_b fv 0 7 && gx_b tv 0 7 && gx_b mv 1 60 && !decide (fv = tv) then 0 else -2
def gs_one (hv : Int32) : Int32 := if gx_b hv 0 7 then 0 else -2
def gs_anew (nv : Int32) : Int32 := if gx_b nv 0 99 then 0 else -2
def gs_feed (nv : Int32) : Int32 := if gx_b nv 1 4 then nv else -2
def gs_status (wv : Int32) : Int32 := if wv = 6 then 1 else if gx_b wv 0 8 || gx_b wv 12 16 then 0 else -1
set_option maxHeartbeats 4000000 in
set_option maxRecDepth 100000 in
theorem x_row (l : Launch) (D : va_G) (k : Nat → ClassId) (ad : Nat → Nat) (fs : Nat → Option Nat) (a : Nat) (el : Nat) (sv : Int32) (so : Int32) (nv : Int32) (hf : gx_b sv 0 7 = true → fs sv.toNatClampNeg = some a) (sz : Nat) : Met l yX6_row (.code yX6_row cX6_row 4 (some .int) :: gx_T) ({ frames := 2, cells := 0, slots := 0, locals := 46 }) (gx_Pre D k [.ref (ad 0), .int sv, .int so, .int nv] ([((ad 0), .inr (4, [.ref (ad 1), .ref (ad 2), .ref (ad 3), .ref (ad 4), .ref (ad 5), .ref (ad 6), .ref (ad 7), .ref (ad 8), .ref (ad 9), .int 0])), ((ad 9), .inl (k 0, 5, .inl (fun _ => 0))), ((ad 5), .inl (k 2, 8, .inr (.inr (.inr (.inr fs))))), (a, .inr (1, [.ref el, .int 0, .int 0, .int (-1)])), (el, .inl (k 1, 40, .inr (.inl (fun _ => 0))))]) sz) (gx_Qi D (fun (r : Int32) (u : Unit) => r = (gs_row sv so nv)) (fun (u : Unit) => ([] : va_W)) (va_A ([((ad 0), .inr (4, [.ref (ad 1), .ref (ad 2), .ref (ad 3), .ref (ad 4), .ref (ad 5), .ref (ad 6), .ref (ad 7), .ref (ad 8), .ref (ad 9), .int 0])), ((ad 9), .inl (k 0, 5, .inl (fun _ => 0))), ((ad 5), .inl (k 2, 8, .inr (.inr (.inr (.inr fs))))), (a, .inr (1, [.ref el, .int 0, .int 0, .int (-1)])), (el, .inl (k 1, 40, .inr (.inl (fun _ => 0))))]) sz)) 0 0 (va_A ([((ad 0), .inr (4, [.ref (ad 1), .ref (ad 2), .ref (ad 3), .ref (ad 4), .ref (ad 5), .ref (ad 6), .ref (ad 7), .ref (ad 8), .ref (ad 9), .int 0])), ((ad 9), .inl (k 0, 5, .inl (fun _ => 0))), ((ad 5), .inl (k 2, 8, .inr (.inr (.inr (.inr fs))))), (a, .inr (1, [.ref el, .int 0, .int 0, .int (-1)])), (el, .inl (k 1, 40, .inr (.inl (fun _ => 0))))]) sz) := by
  refine gx_metE (Qc := fun A => gx_Qi D (fun (r : Int32) (u : Unit) => r = (gs_row sv so nv)) (fun (u : Unit) => ([] : va_W)) A) (by decide) (Nat.le_of_ble_eq_true rfl) ?_
  intro p e s m below meth c A ls C hA hP hD hK hS hl
  obtain ⟨hx, hb, hr, hml, hown, hT, hlk, hin⟩ := id C
  have hown : s.vm.findClass RX6 = some m.cls := hown
  have hl : lv_has ls 4 [(0, .ref (ad 0)), (1, .int sv), (2, .int so), (3, .int nv)] := hl
  refine lv_iload_n hx hb dX6_row_0 rfl (lv_at hl 1 rfl) ?_
  refine gx_pi hP hS (gx_runS (na := 1) (As := [.int sv]) (rest := []) C hl.1 hK (gx_subP (wc := ([] : va_W)) hP [] rfl) ((hD.sub (ws' := ([] : va_W)) [] (by decide) rfl).weaken (fun _ _ _ _ => trivial)) (k_isShelf l D k sv _) gS_RX6_53 (by decide +kernel) rfl rfl ⟨Nat.le_of_ble_eq_true rfl, Nat.le_of_ble_eq_true rfl⟩ rfl rfl (Nat.le_of_ble_eq_true rfl) dX6_row_1 ⟨Nat.le_of_ble_eq_true rfl, Nat.le_of_ble_eq_true rfl⟩) (fun r_2 H locs pc_1 hP hS => ?_)
  have oc_1 : r_2 = 1 ∧ gx_b sv 0 7 = true ∨ r_2 = 0 ∧ gx_b sv 0 7 = false := pc_1
  clear pc_1
  rcases oc_1 with ⟨rfl, c_1⟩ | ⟨rfl, c_1⟩
  · refine lv_if_eq (tgt := 26) hx hb dX6_row_4 (by decide) (fun c_3 => absurd c_3 (by decide)) (fun c_3 => ?_)
    refine lv_iload_n hx hb dX6_row_7 rfl (lv_at hl 2 rfl) ?_
    refine lv_iconst (v := 0) hx hb dX6_row_8 (by decide) ?_
    refine lv_iconst (v := 4) hx hb dX6_row_9 (by decide) ?_
    refine gx_pi hP hS (gx_runS (na := 3) (As := [.int so, .int 0, .int 4]) (rest := []) C hl.1 hK (gx_subP (wc := ([] : va_W)) hP [] rfl) ((hD.sub (ws' := ([] : va_W)) [] (by decide) rfl).weaken (fun _ _ _ _ => trivial)) (k_isBetween l D k so 0 4 _) gS_RX6_57 (by decide +kernel) rfl rfl ⟨Nat.le_of_ble_eq_true rfl, Nat.le_of_ble_eq_true rfl⟩ rfl rfl (Nat.le_of_ble_eq_true rfl) dX6_row_10 ⟨Nat.le_of_ble_eq_true rfl, Nat.le_of_ble_eq_true rfl⟩) (fun r_5 H locs pc_4 hP hS => ?_)
    have oc_4 : r_5 = 1 ∧ gx_b so 0 4 = true ∨ r_5 = 0 ∧ gx_b so 0 4 = false := pc_4
    clear pc_4
    rcases oc_4 with ⟨rfl, c_4⟩ | ⟨rfl, c_4⟩
    · refine lv_if_eq (tgt := 26) hx hb dX6_row_13 (by decide) (fun c_6 => absurd c_6 (by decide)) (fun c_6 => ?_)
      refine lv_iload_n hx hb dX6_row_16 rfl (lv_at hl 3 rfl) ?_
      refine lv_iconst (v := 0) hx hb dX6_row_17 (by decide) ?_
      refine lv_bipush (v := 40) hx hb dX6_row_18 (by decide) ?_
      refine gx_pi hP hS (gx_runS (na := 3) (As := [.int nv, .int 0, .int 40]) (rest := []) C hl.1 hK (gx_subP (wc := ([] : va_W)) hP [] rfl) ((hD.sub (ws' := ([] : va_W)) [] (by decide) rfl).weaken (fun _ _ _ _ => trivial)) (k_isBetween l D k nv 0 40 _) gS_RX6_57 (by decide +kernel) rfl rfl ⟨Nat.le_of_ble_eq_true rfl, Nat.le_of_ble_eq_true rfl⟩ rfl rfl (Nat.le_of_ble_eq_true rfl) dX6_row_20 ⟨Nat.le_of_ble_eq_true rfl, Nat.le_of_ble_eq_true rfl⟩) (fun r_8 H locs pc_7 hP hS => ?_)
      have oc_7 : r_8 = 1 ∧ gx_b nv 0 40 = true ∨ r_8 = 0 ∧ gx_b nv 0 40 = false := pc_7
      clear pc_7
      rcases oc_7 with ⟨rfl, c_7⟩ | ⟨rfl, c_7⟩
      · refine lv_if_ne (tgt := 33) hx hb dX6_row_23 (by decide) (fun c_9 => ?_) (fun c_9 => absurd c_9 (by decide))
        refine lv_aload_n hx hb dX6_row_33 rfl (lv_at hl 0 rfl) ?_
        refine va_get (D := D) (ci := 4) (v := .ref (ad 5)) (C := RX6) (T := TX6) (N := 10) hx hb hT iw_TX6 hown hK.1 hP 0 rfl rfl 4 (by decide) (hT _ wd_275) (fun _ h9 => h9) rfl dX6_row_34 ?_
        refine lv_iload_n hx hb dX6_row_37 rfl (lv_at hl 1 rfl) ?_
        refine va_aldq hx hb hK.1 hP 2 2 rfl rfl (gx_vb c_1 (by decide) (by decide)) dX6_row_38 ?_
        refine gx_csr (v := .ref a) (congrArg va_rf (hf c_1)) ?_
        refine lv_iload_n hx hb dX6_row_39 rfl (lv_at hl 2 rfl) ?_
        refine lv_iload_n hx hb dX6_row_40 rfl (lv_at hl 3 rfl) ?_
        refine gx_ev (wc := ([(a, .inr (1, [.ref el, .int 0, .int 0, .int (-1)])), (el, .inl (k 1, 40, .inr (.inl (fun _ => 0))))] : va_W)) (wr := [((ad 0), .inr (4, [.ref (ad 1), .ref (ad 2), .ref (ad 3), .ref (ad 4), .ref (ad 5), .ref (ad 6), .ref (ad 7), .ref (ad 8), .ref (ad 9), .int 0])), ((ad 9), .inl (k 0, 5, .inl (fun _ => 0))), ((ad 5), .inl (k 2, 8, .inr (.inr (.inr (.inr fs)))))]) (isC := [3, 4]) (isR := [0, 1, 2]) hP hD hS hA rfl rfl (by decide) (by decide) (gx_runV (na := 2) (As := [.int so, .int nv]) (rest := []) (ci := 1) C hl.1 hK (gx_subP (wc := ([(a, .inr (1, [.ref el, .int 0, .int 0, .int (-1)])), (el, .inl (k 1, 40, .inr (.inl (fun _ => 0))))] : va_W)) hP [3, 4] rfl) ((hD.sub (ws' := ([(a, .inr (1, [.ref el, .int 0, .int 0, .int (-1)])), (el, .inl (k 1, 40, .inr (.inl (fun _ => 0))))] : va_W)) [3, 4] (by decide) rfl).weaken (fun _ _ _ _ => trivial)) (k_becomeRow l D k a el so nv _) gV_RX6_65 (by decide +kernel) rfl rfl ⟨Nat.le_of_ble_eq_true rfl, Nat.le_of_ble_eq_true rfl⟩ rfl rfl rfl rfl (Nat.le_of_ble_eq_true rfl) dX6_row_41 ⟨Nat.le_of_ble_eq_true rfl, Nat.le_of_ble_eq_true rfl⟩) (fun u_10 H locs h_11 hP hD hS => ?_)
        have hP : va_P D gx_cl [((ad 0), .inr (4, [.ref (ad 1), .ref (ad 2), .ref (ad 3), .ref (ad 4), .ref (ad 5), .ref (ad 6), .ref (ad 7), .ref (ad 8), .ref (ad 9), .int 0])), ((ad 9), .inl (k 0, 5, .inl (fun _ => 0))), ((ad 5), .inl (k 2, 8, .inr (.inr (.inr (.inr fs)))))] H := hP
        have hD : va_D A [((ad 0), .inr (4, [.ref (ad 1), .ref (ad 2), .ref (ad 3), .ref (ad 4), .ref (ad 5), .ref (ad 6), .ref (ad 7), .ref (ad 8), .ref (ad 9), .int 0])), ((ad 9), .inl (k 0, 5, .inl (fun _ => 0))), ((ad 5), .inl (k 2, 8, .inr (.inr (.inr (.inr fs)))))] := hD
        refine lv_iconst (v := 1) hx hb dX6_row_44 (by decide) ?_
        exact gx_retI C (u := ()) gx_nil gx_noneD hS (by simp [gs_row, c_1, c_4, c_7]) dX6_row_45
      · refine lv_if_ne (tgt := 33) hx hb dX6_row_23 (by decide) (fun c_14 => absurd (by decide) c_14) (fun c_14 => ?_)
        refine lv_aload_n hx hb dX6_row_26 rfl (lv_at hl 0 rfl) ?_
        refine lv_bipush (v := (-2)) hx hb dX6_row_27 (by decide) ?_
        refine gx_ei (wc := ([((ad 0), .inr (4, [.ref (ad 1), .ref (ad 2), .ref (ad 3), .ref (ad 4), .ref (ad 5), .ref (ad 6), .ref (ad 7), .ref (ad 8), .ref (ad 9), .int 0])), ((ad 9), .inl (k 0, 5, .inl (fun _ => 0)))] : va_W)) (wr := [((ad 5), .inl (k 2, 8, .inr (.inr (.inr (.inr fs))))), (a, .inr (1, [.ref el, .int 0, .int 0, .int (-1)])), (el, .inl (k 1, 40, .inr (.inl (fun _ => 0))))]) (isC := [0, 1]) (isR := [2, 3, 4]) hP hD hS hA rfl rfl (by decide) (by decide) (gx_runV (na := 1) (As := [.int (-2)]) (rest := []) (ci := 4) C hl.1 hK (gx_subP (wc := ([((ad 0), .inr (4, [.ref (ad 1), .ref (ad 2), .ref (ad 3), .ref (ad 4), .ref (ad 5), .ref (ad 6), .ref (ad 7), .ref (ad 8), .ref (ad 9), .int 0])), ((ad 9), .inl (k 0, 5, .inl (fun _ => 0)))] : va_W)) hP [0, 1] rfl) ((hD.sub (ws' := ([((ad 0), .inr (4, [.ref (ad 1), .ref (ad 2), .ref (ad 3), .ref (ad 4), .ref (ad 5), .ref (ad 6), .ref (ad 7), .ref (ad 8), .ref (ad 9), .int 0])), ((ad 9), .inl (k 0, 5, .inl (fun _ => 0)))] : va_W)) [0, 1] (by decide) rfl).weaken (fun _ _ _ _ => trivial)) (k_refuse2 l D k ad _) gV_RX6_61 (by decide +kernel) rfl rfl ⟨Nat.le_of_ble_eq_true rfl, Nat.le_of_ble_eq_true rfl⟩ rfl rfl rfl rfl (Nat.le_of_ble_eq_true rfl) dX6_row_29 ⟨Nat.le_of_ble_eq_true rfl, Nat.le_of_ble_eq_true rfl⟩) (fun r_17 u_15 H locs h_16 hP hD hS => ?_)
        have h_16 : r_17 = -2 := h_16
        have hP : va_P D gx_cl [((ad 5), .inl (k 2, 8, .inr (.inr (.inr (.inr fs))))), (a, .inr (1, [.ref el, .int 0, .int 0, .int (-1)])), (el, .inl (k 1, 40, .inr (.inl (fun _ => 0))))] H := hP
        have hD : va_D A [((ad 5), .inl (k 2, 8, .inr (.inr (.inr (.inr fs))))), (a, .inr (1, [.ref el, .int 0, .int 0, .int (-1)])), (el, .inl (k 1, 40, .inr (.inl (fun _ => 0))))] := hD
        have eh_16 := h_16
        subst eh_16
        exact gx_retI C (u := ()) gx_nil gx_noneD hS (by simp [gs_row, c_1, c_4, c_7]) dX6_row_32
    · refine lv_if_eq (tgt := 26) hx hb dX6_row_13 (by decide) (fun c_19 => ?_) (fun c_19 => absurd (by decide) c_19)
      refine lv_aload_n hx hb dX6_row_26 rfl (lv_at hl 0 rfl) ?_
      refine lv_bipush (v := (-2)) hx hb dX6_row_27 (by decide) ?_
      refine gx_ei (wc := ([((ad 0), .inr (4, [.ref (ad 1), .ref (ad 2), .ref (ad 3), .ref (ad 4), .ref (ad 5), .ref (ad 6), .ref (ad 7), .ref (ad 8), .ref (ad 9), .int 0])), ((ad 9), .inl (k 0, 5, .inl (fun _ => 0)))] : va_W)) (wr := [((ad 5), .inl (k 2, 8, .inr (.inr (.inr (.inr fs))))), (a, .inr (1, [.ref el, .int 0, .int 0, .int (-1)])), (el, .inl (k 1, 40, .inr (.inl (fun _ => 0))))]) (isC := [0, 1]) (isR := [2, 3, 4]) hP hD hS hA rfl rfl (by decide) (by decide) (gx_runV (na := 1) (As := [.int (-2)]) (rest := []) (ci := 4) C hl.1 hK (gx_subP (wc := ([((ad 0), .inr (4, [.ref (ad 1), .ref (ad 2), .ref (ad 3), .ref (ad 4), .ref (ad 5), .ref (ad 6), .ref (ad 7), .ref (ad 8), .ref (ad 9), .int 0])), ((ad 9), .inl (k 0, 5, .inl (fun _ => 0)))] : va_W)) hP [0, 1] rfl) ((hD.sub (ws' := ([((ad 0), .inr (4, [.ref (ad 1), .ref (ad 2), .ref (ad 3), .ref (ad 4), .ref (ad 5), .ref (ad 6), .ref (ad 7), .ref (ad 8), .ref (ad 9), .int 0])), ((ad 9), .inl (k 0, 5, .inl (fun _ => 0)))] : va_W)) [0, 1] (by decide) rfl).weaken (fun _ _ _ _ => trivial)) (k_refuse2 l D k ad _) gV_RX6_61 (by decide +kernel) rfl rfl ⟨Nat.le_of_ble_eq_true rfl, Nat.le_of_ble_eq_true rfl⟩ rfl rfl rfl rfl (Nat.le_of_ble_eq_true rfl) dX6_row_29 ⟨Nat.le_of_ble_eq_true rfl, Nat.le_of_ble_eq_true rfl⟩) (fun r_22 u_20 H locs h_21 hP hD hS => ?_)
      have h_21 : r_22 = -2 := h_21
      have hP : va_P D gx_cl [((ad 5), .inl (k 2, 8, .inr (.inr (.inr (.inr fs))))), (a, .inr (1, [.ref el, .int 0, .int 0, .int (-1)])), (el, .inl (k 1, 40, .inr (.inl (fun _ => 0))))] H := hP
      have hD : va_D A [((ad 5), .inl (k 2, 8, .inr (.inr (.inr (.inr fs))))), (a, .inr (1, [.ref el, .int 0, .int 0, .int (-1)])), (el, .inl (k 1, 40, .inr (.inl (fun _ => 0))))] := hD
      have eh_21 := h_21
      subst eh_21
      exact gx_retI C (u := ()) gx_nil gx_noneD hS (by simp [gs_row, c_1, c_4]) dX6_row_32
  · refine lv_if_eq (tgt := 26) hx hb dX6_row_4 (by decide) (fun c_24 => ?_) (fun c_24 => absurd (by decide) c_24)
    refine lv_aload_n hx hb dX6_row_26 rfl (lv_at hl 0 rfl) ?_
    refine lv_bipush (v := (-2)) hx hb dX6_row_27 (by decide) ?_
    refine gx_ei (wc := ([((ad 0), .inr (4, [.ref (ad 1), .ref (ad 2), .ref (ad 3), .ref (ad 4), .ref (ad 5), .ref (ad 6), .ref (ad 7), .ref (ad 8), .ref (ad 9), .int 0])), ((ad 9), .inl (k 0, 5, .inl (fun _ => 0)))] : va_W)) (wr := [((ad 5), .inl (k 2, 8, .inr (.inr (.inr (.inr fs))))), (a, .inr (1, [.ref el, .int 0, .int 0, .int (-1)])), (el, .inl (k 1, 40, .inr (.inl (fun _ => 0))))]) (isC := [0, 1]) (isR := [2, 3, 4]) hP hD hS hA rfl rfl (by decide) (by decide) (gx_runV (na := 1) (As := [.int (-2)]) (rest := []) (ci := 4) C hl.1 hK (gx_subP (wc := ([((ad 0), .inr (4, [.ref (ad 1), .ref (ad 2), .ref (ad 3), .ref (ad 4), .ref (ad 5), .ref (ad 6), .ref (ad 7), .ref (ad 8), .ref (ad 9), .int 0])), ((ad 9), .inl (k 0, 5, .inl (fun _ => 0)))] : va_W)) hP [0, 1] rfl) ((hD.sub (ws' := ([((ad 0), .inr (4, [.ref (ad 1), .ref (ad 2), .ref (ad 3), .ref (ad 4), .ref (ad 5), .ref (ad 6), .ref (ad 7), .ref (ad 8), .ref (ad 9), .int 0])), ((ad 9), .inl (k 0, 5, .inl (fun _ => 0)))] : va_W)) [0, 1] (by decide) rfl).weaken (fun _ _ _ _ => trivial)) (k_refuse2 l D k ad _) gV_RX6_61 (by decide +kernel) rfl rfl ⟨Nat.le_of_ble_eq_true rfl, Nat.le_of_ble_eq_true rfl⟩ rfl rfl rfl rfl (Nat.le_of_ble_eq_true rfl) dX6_row_29 ⟨Nat.le_of_ble_eq_true rfl, Nat.le_of_ble_eq_true rfl⟩) (fun r_27 u_25 H locs h_26 hP hD hS => ?_)
    have h_26 : r_27 = -2 := h_26
    have hP : va_P D gx_cl [((ad 5), .inl (k 2, 8, .inr (.inr (.inr (.inr fs))))), (a, .inr (1, [.ref el, .int 0, .int 0, .int (-1)])), (el, .inl (k 1, 40, .inr (.inl (fun _ => 0))))] H := hP
    have hD : va_D A [((ad 5), .inl (k 2, 8, .inr (.inr (.inr (.inr fs))))), (a, .inr (1, [.ref el, .int 0, .int 0, .int (-1)])), (el, .inl (k 1, 40, .inr (.inl (fun _ => 0))))] := hD
    have eh_26 := h_26
    subst eh_26
    exact gx_retI C (u := ()) gx_nil gx_noneD hS (by simp [gs_row, c_1]) dX6_row_32
set_option maxHeartbeats 4000000 in
set_option maxRecDepth 100000 in
theorem x_set (l : Launch) (D : va_G) (k : Nat → ClassId) (ad : Nat → Nat) (fs : Nat → Option Nat) (a : Nat) (el : Nat) (sv : Int32) (iv : Int32) (lv : Int64) (hf : gx_b sv 0 7 = true → fs sv.toNatClampNeg = some a) (sz : Nat) : Met l yX6_set (.code yX6_set cX6_set 6 (some .int) :: gx_T) ({ frames := 2, cells := 0, slots := 0, locals := 43 }) (gx_Pre D k [.ref (ad 0), .int sv, .int iv, .long lv] ([((ad 0), .inr (4, [.ref (ad 1), .ref (ad 2), .ref (ad 3), .ref (ad 4), .ref (ad 5), .ref (ad 6), .ref (ad 7), .ref (ad 8), .ref (ad 9), .int 0])), ((ad 9), .inl (k 0, 5, .inl (fun _ => 0))), ((ad 5), .inl (k 2, 8, .inr (.inr (.inr (.inr fs))))), (a, .inr (1, [.ref el, .int 0, .int 0, .int (-1)]))]) sz) (gx_Qi D (fun (r : Int32) (u : Unit) => r = (gs_set sv)) (fun (u : Unit) => ([] : va_W)) (va_A ([((ad 0), .inr (4, [.ref (ad 1), .ref (ad 2), .ref (ad 3), .ref (ad 4), .ref (ad 5), .ref (ad 6), .ref (ad 7), .ref (ad 8), .ref (ad 9), .int 0])), ((ad 9), .inl (k 0, 5, .inl (fun _ => 0))), ((ad 5), .inl (k 2, 8, .inr (.inr (.inr (.inr fs))))), (a, .inr (1, [.ref el, .int 0, .int 0, .int (-1)]))]) sz)) 0 0 (va_A ([((ad 0), .inr (4, [.ref (ad 1), .ref (ad 2), .ref (ad 3), .ref (ad 4), .ref (ad 5), .ref (ad 6), .ref (ad 7), .ref (ad 8), .ref (ad 9), .int 0])), ((ad 9), .inl (k 0, 5, .inl (fun _ => 0))), ((ad 5), .inl (k 2, 8, .inr (.inr (.inr (.inr fs))))), (a, .inr (1, [.ref el, .int 0, .int 0, .int (-1)]))]) sz) := by
  refine gx_metE (Qc := fun A => gx_Qi D (fun (r : Int32) (u : Unit) => r = (gs_set sv)) (fun (u : Unit) => ([] : va_W)) A) (by decide) (Nat.le_of_ble_eq_true rfl) ?_
  intro p e s m below meth c A ls C hA hP hD hK hS hl
  obtain ⟨hx, hb, hr, hml, hown, hT, hlk, hin⟩ := id C
  have hown : s.vm.findClass RX6 = some m.cls := hown
  have hl : lv_has ls 6 [(0, .ref (ad 0)), (1, .int sv), (2, .int iv), (3, .long lv)] := hl
  refine lv_iload_n hx hb dX6_set_0 rfl (lv_at hl 1 rfl) ?_
  refine gx_pi hP hS (gx_runS (na := 1) (As := [.int sv]) (rest := []) C hl.1 hK (gx_subP (wc := ([] : va_W)) hP [] rfl) ((hD.sub (ws' := ([] : va_W)) [] (by decide) rfl).weaken (fun _ _ _ _ => trivial)) (k_isShelf l D k sv _) gS_RX6_53 (by decide +kernel) rfl rfl ⟨Nat.le_of_ble_eq_true rfl, Nat.le_of_ble_eq_true rfl⟩ rfl rfl (Nat.le_of_ble_eq_true rfl) dX6_set_1 ⟨Nat.le_of_ble_eq_true rfl, Nat.le_of_ble_eq_true rfl⟩) (fun r_2 H locs pc_1 hP hS => ?_)
  have oc_1 : r_2 = 1 ∧ gx_b sv 0 7 = true ∨ r_2 = 0 ∧ gx_b sv 0 7 = false := pc_1
  clear pc_1
  rcases oc_1 with ⟨rfl, c_1⟩ | ⟨rfl, c_1⟩
  · refine lv_if_ne (tgt := 14) hx hb dX6_set_4 (by decide) (fun c_3 => ?_) (fun c_3 => absurd c_3 (by decide))
    refine lv_aload_n hx hb dX6_set_14 rfl (lv_at hl 0 rfl) ?_
    refine lv_iload_n hx hb dX6_set_15 rfl (lv_at hl 1 rfl) ?_
    refine gx_pi hP hS (gx_runV (na := 1) (As := [.int sv]) (rest := []) (ci := 4) C hl.1 hK (gx_subP (wc := ([((ad 0), .inr (4, [.ref (ad 1), .ref (ad 2), .ref (ad 3), .ref (ad 4), .ref (ad 5), .ref (ad 6), .ref (ad 7), .ref (ad 8), .ref (ad 9), .int 0])), ((ad 5), .inl (k 2, 8, .inr (.inr (.inr (.inr fs))))), (a, .inr (1, [.ref el, .int 0, .int 0, .int (-1)]))] : va_W)) hP [0, 2, 3] rfl) ((hD.sub (ws' := ([((ad 0), .inr (4, [.ref (ad 1), .ref (ad 2), .ref (ad 3), .ref (ad 4), .ref (ad 5), .ref (ad 6), .ref (ad 7), .ref (ad 8), .ref (ad 9), .int 0])), ((ad 5), .inl (k 2, 8, .inr (.inr (.inr (.inr fs))))), (a, .inr (1, [.ref el, .int 0, .int 0, .int (-1)]))] : va_W)) [0, 2, 3] (by decide) rfl).weaken (fun _ _ _ _ => trivial)) (k_rowTrouble l D k ad fs a el sv c_1 (hf c_1) _) gV_RX6_69 (by decide +kernel) rfl rfl ⟨Nat.le_of_ble_eq_true rfl, Nat.le_of_ble_eq_true rfl⟩ rfl rfl rfl rfl (Nat.le_of_ble_eq_true rfl) dX6_set_16 ⟨Nat.le_of_ble_eq_true rfl, Nat.le_of_ble_eq_true rfl⟩) (fun r_5 H locs c_4 hP hS => ?_)
    have c_4 : r_5 = -4 := c_4
    subst c_4
    refine lv_istore (lv' := [(5, .int (-4)), (0, .ref (ad 0)), (1, .int sv), (2, .int iv), (3, .long lv)]) hx hb dX6_set_19 hl (by decide) rfl (fun ls hl => ?_)
    refine lv_iload hx hb dX6_set_21 (lv_at hl 0 rfl) ?_
    refine lv_if_eq (tgt := 33) hx hb dX6_set_23 (by decide) (fun c_6 => absurd c_6 (by decide)) (fun c_6 => ?_)
    refine lv_aload_n hx hb dX6_set_26 rfl (lv_at hl 1 rfl) ?_
    refine lv_iload hx hb dX6_set_27 (lv_at hl 0 rfl) ?_
    refine gx_ei (wc := ([((ad 0), .inr (4, [.ref (ad 1), .ref (ad 2), .ref (ad 3), .ref (ad 4), .ref (ad 5), .ref (ad 6), .ref (ad 7), .ref (ad 8), .ref (ad 9), .int 0])), ((ad 9), .inl (k 0, 5, .inl (fun _ => 0)))] : va_W)) (wr := [((ad 5), .inl (k 2, 8, .inr (.inr (.inr (.inr fs))))), (a, .inr (1, [.ref el, .int 0, .int 0, .int (-1)]))]) (isC := [0, 1]) (isR := [2, 3]) hP hD hS hA rfl rfl (by decide) (by decide) (gx_runV (na := 1) (As := [.int (-4)]) (rest := []) (ci := 4) C hl.1 hK (gx_subP (wc := ([((ad 0), .inr (4, [.ref (ad 1), .ref (ad 2), .ref (ad 3), .ref (ad 4), .ref (ad 5), .ref (ad 6), .ref (ad 7), .ref (ad 8), .ref (ad 9), .int 0])), ((ad 9), .inl (k 0, 5, .inl (fun _ => 0)))] : va_W)) hP [0, 1] rfl) ((hD.sub (ws' := ([((ad 0), .inr (4, [.ref (ad 1), .ref (ad 2), .ref (ad 3), .ref (ad 4), .ref (ad 5), .ref (ad 6), .ref (ad 7), .ref (ad 8), .ref (ad 9), .int 0])), ((ad 9), .inl (k 0, 5, .inl (fun _ => 0)))] : va_W)) [0, 1] (by decide) rfl).weaken (fun _ _ _ _ => trivial)) (k_refuse4 l D k ad _) gV_RX6_61 (by decide +kernel) rfl rfl ⟨Nat.le_of_ble_eq_true rfl, Nat.le_of_ble_eq_true rfl⟩ rfl rfl rfl rfl (Nat.le_of_ble_eq_true rfl) dX6_set_29 ⟨Nat.le_of_ble_eq_true rfl, Nat.le_of_ble_eq_true rfl⟩) (fun r_9 u_7 H locs h_8 hP hD hS => ?_)
    have h_8 : r_9 = -4 := h_8
    have hP : va_P D gx_cl [((ad 5), .inl (k 2, 8, .inr (.inr (.inr (.inr fs))))), (a, .inr (1, [.ref el, .int 0, .int 0, .int (-1)]))] H := hP
    have hD : va_D A [((ad 5), .inl (k 2, 8, .inr (.inr (.inr (.inr fs))))), (a, .inr (1, [.ref el, .int 0, .int 0, .int (-1)]))] := hD
    have eh_8 := h_8
    subst eh_8
    exact gx_retI C (u := ()) gx_nil gx_noneD hS (by simp [gs_set, c_1]) dX6_set_32
  · refine lv_if_ne (tgt := 14) hx hb dX6_set_4 (by decide) (fun c_11 => absurd (by decide) c_11) (fun c_11 => ?_)
    refine lv_aload_n hx hb dX6_set_7 rfl (lv_at hl 0 rfl) ?_
    refine lv_bipush (v := (-2)) hx hb dX6_set_8 (by decide) ?_
    refine gx_ei (wc := ([((ad 0), .inr (4, [.ref (ad 1), .ref (ad 2), .ref (ad 3), .ref (ad 4), .ref (ad 5), .ref (ad 6), .ref (ad 7), .ref (ad 8), .ref (ad 9), .int 0])), ((ad 9), .inl (k 0, 5, .inl (fun _ => 0)))] : va_W)) (wr := [((ad 5), .inl (k 2, 8, .inr (.inr (.inr (.inr fs))))), (a, .inr (1, [.ref el, .int 0, .int 0, .int (-1)]))]) (isC := [0, 1]) (isR := [2, 3]) hP hD hS hA rfl rfl (by decide) (by decide) (gx_runV (na := 1) (As := [.int (-2)]) (rest := []) (ci := 4) C hl.1 hK (gx_subP (wc := ([((ad 0), .inr (4, [.ref (ad 1), .ref (ad 2), .ref (ad 3), .ref (ad 4), .ref (ad 5), .ref (ad 6), .ref (ad 7), .ref (ad 8), .ref (ad 9), .int 0])), ((ad 9), .inl (k 0, 5, .inl (fun _ => 0)))] : va_W)) hP [0, 1] rfl) ((hD.sub (ws' := ([((ad 0), .inr (4, [.ref (ad 1), .ref (ad 2), .ref (ad 3), .ref (ad 4), .ref (ad 5), .ref (ad 6), .ref (ad 7), .ref (ad 8), .ref (ad 9), .int 0])), ((ad 9), .inl (k 0, 5, .inl (fun _ => 0)))] : va_W)) [0, 1] (by decide) rfl).weaken (fun _ _ _ _ => trivial)) (k_refuse2 l D k ad _) gV_RX6_61 (by decide +kernel) rfl rfl ⟨Nat.le_of_ble_eq_true rfl, Nat.le_of_ble_eq_true rfl⟩ rfl rfl rfl rfl (Nat.le_of_ble_eq_true rfl) dX6_set_10 ⟨Nat.le_of_ble_eq_true rfl, Nat.le_of_ble_eq_true rfl⟩) (fun r_14 u_12 H locs h_13 hP hD hS => ?_)
    have h_13 : r_14 = -2 := h_13
    have hP : va_P D gx_cl [((ad 5), .inl (k 2, 8, .inr (.inr (.inr (.inr fs))))), (a, .inr (1, [.ref el, .int 0, .int 0, .int (-1)]))] H := hP
    have hD : va_D A [((ad 5), .inl (k 2, 8, .inr (.inr (.inr (.inr fs))))), (a, .inr (1, [.ref el, .int 0, .int 0, .int (-1)]))] := hD
    have eh_13 := h_13
    subst eh_13
    exact gx_retI C (u := ()) gx_nil gx_noneD hS (by simp [gs_set, c_1]) dX6_set_13
set_option maxHeartbeats 4000000 in
set_option maxRecDepth 100000 in
theorem x_copy1 (l : Launch) (D : va_G) (k : Nat → ClassId) (ad : Nat → Nat) (fs : Nat → Option Nat) (a : Nat) (el : Nat) (pv : Int32) (qv : Int32) (iv : Int32) (jv : Int32) (nv : Int32) (hf : gx_b pv 0 7 = true → fs pv.toNatClampNeg = some a) (hf2 : gx_b qv 0 7 = true → fs qv.toNatClampNeg = some a) (sz : Nat) : Met l yX6_copy (.code yX6_copy cX6_copy 7 (some .int) :: gx_T) ({ frames := 2, cells := 0, slots := 0, locals := 43 }) (gx_Pre D k [.ref (ad 0), .int pv, .int qv, .int iv, .int jv, .int nv] ([((ad 0), .inr (4, [.ref (ad 1), .ref (ad 2), .ref (ad 3), .ref (ad 4), .ref (ad 5), .ref (ad 6), .ref (ad 7), .ref (ad 8), .ref (ad 9), .int 0])), ((ad 9), .inl (k 0, 5, .inl (fun _ => 0))), ((ad 5), .inl (k 2, 8, .inr (.inr (.inr (.inr fs))))), (a, .inr (1, [.ref el, .int 0, .int 0, .int (-1)]))]) sz) (gx_Qi D (fun (r : Int32) (u : Unit) => r = (gs_copy pv qv)) (fun (u : Unit) => ([] : va_W)) (va_A ([((ad 0), .inr (4, [.ref (ad 1), .ref (ad 2), .ref (ad 3), .ref (ad 4), .ref (ad 5), .ref (ad 6), .ref (ad 7), .ref (ad 8), .ref (ad 9), .int 0])), ((ad 9), .inl (k 0, 5, .inl (fun _ => 0))), ((ad 5), .inl (k 2, 8, .inr (.inr (.inr (.inr fs))))), (a, .inr (1, [.ref el, .int 0, .int 0, .int (-1)]))]) sz)) 0 0 (va_A ([((ad 0), .inr (4, [.ref (ad 1), .ref (ad 2), .ref (ad 3), .ref (ad 4), .ref (ad 5), .ref (ad 6), .ref (ad 7), .ref (ad 8), .ref (ad 9), .int 0])), ((ad 9), .inl (k 0, 5, .inl (fun _ => 0))), ((ad 5), .inl (k 2, 8, .inr (.inr (.inr (.inr fs))))), (a, .inr (1, [.ref el, .int 0, .int 0, .int (-1)]))]) sz) := by
  refine gx_metE (Qc := fun A => gx_Qi D (fun (r : Int32) (u : Unit) => r = (gs_copy pv qv)) (fun (u : Unit) => ([] : va_W)) A) (by decide) (Nat.le_of_ble_eq_true rfl) ?_
  intro p e s m below meth c A ls C hA hP hD hK hS hl
  obtain ⟨hx, hb, hr, hml, hown, hT, hlk, hin⟩ := id C
  have hown : s.vm.findClass RX6 = some m.cls := hown
  have hl : lv_has ls 7 [(0, .ref (ad 0)), (1, .int pv), (2, .int qv), (3, .int iv), (4, .int jv), (5, .int nv)] := hl
  refine lv_iload_n hx hb dX6_copy_0 rfl (lv_at hl 1 rfl) ?_
  refine gx_pi hP hS (gx_runS (na := 1) (As := [.int pv]) (rest := []) C hl.1 hK (gx_subP (wc := ([] : va_W)) hP [] rfl) ((hD.sub (ws' := ([] : va_W)) [] (by decide) rfl).weaken (fun _ _ _ _ => trivial)) (k_isShelf l D k pv _) gS_RX6_53 (by decide +kernel) rfl rfl ⟨Nat.le_of_ble_eq_true rfl, Nat.le_of_ble_eq_true rfl⟩ rfl rfl (Nat.le_of_ble_eq_true rfl) dX6_copy_1 ⟨Nat.le_of_ble_eq_true rfl, Nat.le_of_ble_eq_true rfl⟩) (fun r_2 H locs pc_1 hP hS => ?_)
  have oc_1 : r_2 = 1 ∧ gx_b pv 0 7 = true ∨ r_2 = 0 ∧ gx_b pv 0 7 = false := pc_1
  clear pc_1
  rcases oc_1 with ⟨rfl, c_1⟩ | ⟨rfl, c_1⟩
  · refine lv_if_eq (tgt := 14) hx hb dX6_copy_4 (by decide) (fun c_3 => absurd c_3 (by decide)) (fun c_3 => ?_)
    refine lv_iload_n hx hb dX6_copy_7 rfl (lv_at hl 2 rfl) ?_
    refine gx_pi hP hS (gx_runS (na := 1) (As := [.int qv]) (rest := []) C hl.1 hK (gx_subP (wc := ([] : va_W)) hP [] rfl) ((hD.sub (ws' := ([] : va_W)) [] (by decide) rfl).weaken (fun _ _ _ _ => trivial)) (k_isShelf l D k qv _) gS_RX6_53 (by decide +kernel) rfl rfl ⟨Nat.le_of_ble_eq_true rfl, Nat.le_of_ble_eq_true rfl⟩ rfl rfl (Nat.le_of_ble_eq_true rfl) dX6_copy_8 ⟨Nat.le_of_ble_eq_true rfl, Nat.le_of_ble_eq_true rfl⟩) (fun r_5 H locs pc_4 hP hS => ?_)
    have oc_4 : r_5 = 1 ∧ gx_b qv 0 7 = true ∨ r_5 = 0 ∧ gx_b qv 0 7 = false := pc_4
    clear pc_4
    rcases oc_4 with ⟨rfl, c_4⟩ | ⟨rfl, c_4⟩
    · refine lv_if_ne (tgt := 21) hx hb dX6_copy_11 (by decide) (fun c_6 => ?_) (fun c_6 => absurd c_6 (by decide))
      refine lv_aload_n hx hb dX6_copy_21 rfl (lv_at hl 0 rfl) ?_
      refine va_get (D := D) (ci := 4) (v := .ref (ad 5)) (C := RX6) (T := TX6) (N := 10) hx hb hT iw_TX6 hown hK.1 hP 0 rfl rfl 4 (by decide) (hT _ wd_275) (fun _ h9 => h9) rfl dX6_copy_22 ?_
      refine lv_iload_n hx hb dX6_copy_25 rfl (lv_at hl 1 rfl) ?_
      refine va_aldq hx hb hK.1 hP 2 2 rfl rfl (gx_vb c_1 (by decide) (by decide)) dX6_copy_26 ?_
      refine gx_csr (v := .ref a) (congrArg va_rf (hf c_1)) ?_
      refine lv_aload_n hx hb dX6_copy_27 rfl (lv_at hl 0 rfl) ?_
      refine va_get (D := D) (ci := 4) (v := .ref (ad 5)) (C := RX6) (T := TX6) (N := 10) hx hb hT iw_TX6 hown hK.1 hP 0 rfl rfl 4 (by decide) (hT _ wd_275) (fun _ h9 => h9) rfl dX6_copy_28 ?_
      refine lv_iload_n hx hb dX6_copy_31 rfl (lv_at hl 2 rfl) ?_
      refine va_aldq hx hb hK.1 hP 2 2 rfl rfl (gx_vb c_4 (by decide) (by decide)) dX6_copy_32 ?_
      refine gx_csr (v := .ref a) (congrArg va_rf (hf2 c_4)) ?_
      refine gx_pi hP hS (gx_runS (na := 2) (As := [.ref a, .ref a]) (rest := []) C hl.1 hK (gx_subP (wc := ([(a, .inr (1, [.ref el, .int 0, .int 0, .int (-1)]))] : va_W)) hP [3] rfl) ((hD.sub (ws' := ([(a, .inr (1, [.ref el, .int 0, .int 0, .int (-1)]))] : va_W)) [3] (by decide) rfl).weaken (fun _ _ _ _ => trivial)) (k_copyTrouble1 l D k a el _) gS_RX6_80 (by decide +kernel) rfl rfl ⟨Nat.le_of_ble_eq_true rfl, Nat.le_of_ble_eq_true rfl⟩ rfl rfl (Nat.le_of_ble_eq_true rfl) dX6_copy_33 ⟨Nat.le_of_ble_eq_true rfl, Nat.le_of_ble_eq_true rfl⟩) (fun r_8 H locs c_7 hP hS => ?_)
      have c_7 : r_8 = -4 := c_7
      subst c_7
      refine lv_istore (lv' := [(6, .int (-4)), (0, .ref (ad 0)), (1, .int pv), (2, .int qv), (3, .int iv), (4, .int jv), (5, .int nv)]) hx hb dX6_copy_36 hl (by decide) rfl (fun ls hl => ?_)
      refine lv_iload hx hb dX6_copy_38 (lv_at hl 0 rfl) ?_
      refine lv_if_eq (tgt := 50) hx hb dX6_copy_40 (by decide) (fun c_9 => absurd c_9 (by decide)) (fun c_9 => ?_)
      refine lv_aload_n hx hb dX6_copy_43 rfl (lv_at hl 1 rfl) ?_
      refine lv_iload hx hb dX6_copy_44 (lv_at hl 0 rfl) ?_
      refine gx_ei (wc := ([((ad 0), .inr (4, [.ref (ad 1), .ref (ad 2), .ref (ad 3), .ref (ad 4), .ref (ad 5), .ref (ad 6), .ref (ad 7), .ref (ad 8), .ref (ad 9), .int 0])), ((ad 9), .inl (k 0, 5, .inl (fun _ => 0)))] : va_W)) (wr := [((ad 5), .inl (k 2, 8, .inr (.inr (.inr (.inr fs))))), (a, .inr (1, [.ref el, .int 0, .int 0, .int (-1)]))]) (isC := [0, 1]) (isR := [2, 3]) hP hD hS hA rfl rfl (by decide) (by decide) (gx_runV (na := 1) (As := [.int (-4)]) (rest := []) (ci := 4) C hl.1 hK (gx_subP (wc := ([((ad 0), .inr (4, [.ref (ad 1), .ref (ad 2), .ref (ad 3), .ref (ad 4), .ref (ad 5), .ref (ad 6), .ref (ad 7), .ref (ad 8), .ref (ad 9), .int 0])), ((ad 9), .inl (k 0, 5, .inl (fun _ => 0)))] : va_W)) hP [0, 1] rfl) ((hD.sub (ws' := ([((ad 0), .inr (4, [.ref (ad 1), .ref (ad 2), .ref (ad 3), .ref (ad 4), .ref (ad 5), .ref (ad 6), .ref (ad 7), .ref (ad 8), .ref (ad 9), .int 0])), ((ad 9), .inl (k 0, 5, .inl (fun _ => 0)))] : va_W)) [0, 1] (by decide) rfl).weaken (fun _ _ _ _ => trivial)) (k_refuse4 l D k ad _) gV_RX6_61 (by decide +kernel) rfl rfl ⟨Nat.le_of_ble_eq_true rfl, Nat.le_of_ble_eq_true rfl⟩ rfl rfl rfl rfl (Nat.le_of_ble_eq_true rfl) dX6_copy_46 ⟨Nat.le_of_ble_eq_true rfl, Nat.le_of_ble_eq_true rfl⟩) (fun r_12 u_10 H locs h_11 hP hD hS => ?_)
      have h_11 : r_12 = -4 := h_11
      have hP : va_P D gx_cl [((ad 5), .inl (k 2, 8, .inr (.inr (.inr (.inr fs))))), (a, .inr (1, [.ref el, .int 0, .int 0, .int (-1)]))] H := hP
      have hD : va_D A [((ad 5), .inl (k 2, 8, .inr (.inr (.inr (.inr fs))))), (a, .inr (1, [.ref el, .int 0, .int 0, .int (-1)]))] := hD
      have eh_11 := h_11
      subst eh_11
      exact gx_retI C (u := ()) gx_nil gx_noneD hS (by simp [gs_copy, c_1, c_4]) dX6_copy_49
    · refine lv_if_ne (tgt := 21) hx hb dX6_copy_11 (by decide) (fun c_14 => absurd (by decide) c_14) (fun c_14 => ?_)
      refine lv_aload_n hx hb dX6_copy_14 rfl (lv_at hl 0 rfl) ?_
      refine lv_bipush (v := (-2)) hx hb dX6_copy_15 (by decide) ?_
      refine gx_ei (wc := ([((ad 0), .inr (4, [.ref (ad 1), .ref (ad 2), .ref (ad 3), .ref (ad 4), .ref (ad 5), .ref (ad 6), .ref (ad 7), .ref (ad 8), .ref (ad 9), .int 0])), ((ad 9), .inl (k 0, 5, .inl (fun _ => 0)))] : va_W)) (wr := [((ad 5), .inl (k 2, 8, .inr (.inr (.inr (.inr fs))))), (a, .inr (1, [.ref el, .int 0, .int 0, .int (-1)]))]) (isC := [0, 1]) (isR := [2, 3]) hP hD hS hA rfl rfl (by decide) (by decide) (gx_runV (na := 1) (As := [.int (-2)]) (rest := []) (ci := 4) C hl.1 hK (gx_subP (wc := ([((ad 0), .inr (4, [.ref (ad 1), .ref (ad 2), .ref (ad 3), .ref (ad 4), .ref (ad 5), .ref (ad 6), .ref (ad 7), .ref (ad 8), .ref (ad 9), .int 0])), ((ad 9), .inl (k 0, 5, .inl (fun _ => 0)))] : va_W)) hP [0, 1] rfl) ((hD.sub (ws' := ([((ad 0), .inr (4, [.ref (ad 1), .ref (ad 2), .ref (ad 3), .ref (ad 4), .ref (ad 5), .ref (ad 6), .ref (ad 7), .ref (ad 8), .ref (ad 9), .int 0])), ((ad 9), .inl (k 0, 5, .inl (fun _ => 0)))] : va_W)) [0, 1] (by decide) rfl).weaken (fun _ _ _ _ => trivial)) (k_refuse2 l D k ad _) gV_RX6_61 (by decide +kernel) rfl rfl ⟨Nat.le_of_ble_eq_true rfl, Nat.le_of_ble_eq_true rfl⟩ rfl rfl rfl rfl (Nat.le_of_ble_eq_true rfl) dX6_copy_17 ⟨Nat.le_of_ble_eq_true rfl, Nat.le_of_ble_eq_true rfl⟩) (fun r_17 u_15 H locs h_16 hP hD hS => ?_)
      have h_16 : r_17 = -2 := h_16
      have hP : va_P D gx_cl [((ad 5), .inl (k 2, 8, .inr (.inr (.inr (.inr fs))))), (a, .inr (1, [.ref el, .int 0, .int 0, .int (-1)]))] H := hP
      have hD : va_D A [((ad 5), .inl (k 2, 8, .inr (.inr (.inr (.inr fs))))), (a, .inr (1, [.ref el, .int 0, .int 0, .int (-1)]))] := hD
      have eh_16 := h_16
      subst eh_16
      exact gx_retI C (u := ()) gx_nil gx_noneD hS (by simp [gs_copy, c_1, c_4]) dX6_copy_20
  · refine lv_if_eq (tgt := 14) hx hb dX6_copy_4 (by decide) (fun c_19 => ?_) (fun c_19 => absurd (by decide) c_19)
    refine lv_aload_n hx hb dX6_copy_14 rfl (lv_at hl 0 rfl) ?_
    refine lv_bipush (v := (-2)) hx hb dX6_copy_15 (by decide) ?_
    refine gx_ei (wc := ([((ad 0), .inr (4, [.ref (ad 1), .ref (ad 2), .ref (ad 3), .ref (ad 4), .ref (ad 5), .ref (ad 6), .ref (ad 7), .ref (ad 8), .ref (ad 9), .int 0])), ((ad 9), .inl (k 0, 5, .inl (fun _ => 0)))] : va_W)) (wr := [((ad 5), .inl (k 2, 8, .inr (.inr (.inr (.inr fs))))), (a, .inr (1, [.ref el, .int 0, .int 0, .int (-1)]))]) (isC := [0, 1]) (isR := [2, 3]) hP hD hS hA rfl rfl (by decide) (by decide) (gx_runV (na := 1) (As := [.int (-2)]) (rest := []) (ci := 4) C hl.1 hK (gx_subP (wc := ([((ad 0), .inr (4, [.ref (ad 1), .ref (ad 2), .ref (ad 3), .ref (ad 4), .ref (ad 5), .ref (ad 6), .ref (ad 7), .ref (ad 8), .ref (ad 9), .int 0])), ((ad 9), .inl (k 0, 5, .inl (fun _ => 0)))] : va_W)) hP [0, 1] rfl) ((hD.sub (ws' := ([((ad 0), .inr (4, [.ref (ad 1), .ref (ad 2), .ref (ad 3), .ref (ad 4), .ref (ad 5), .ref (ad 6), .ref (ad 7), .ref (ad 8), .ref (ad 9), .int 0])), ((ad 9), .inl (k 0, 5, .inl (fun _ => 0)))] : va_W)) [0, 1] (by decide) rfl).weaken (fun _ _ _ _ => trivial)) (k_refuse2 l D k ad _) gV_RX6_61 (by decide +kernel) rfl rfl ⟨Nat.le_of_ble_eq_true rfl, Nat.le_of_ble_eq_true rfl⟩ rfl rfl rfl rfl (Nat.le_of_ble_eq_true rfl) dX6_copy_17 ⟨Nat.le_of_ble_eq_true rfl, Nat.le_of_ble_eq_true rfl⟩) (fun r_22 u_20 H locs h_21 hP hD hS => ?_)
    have h_21 : r_22 = -2 := h_21
    have hP : va_P D gx_cl [((ad 5), .inl (k 2, 8, .inr (.inr (.inr (.inr fs))))), (a, .inr (1, [.ref el, .int 0, .int 0, .int (-1)]))] H := hP
    have hD : va_D A [((ad 5), .inl (k 2, 8, .inr (.inr (.inr (.inr fs))))), (a, .inr (1, [.ref el, .int 0, .int 0, .int (-1)]))] := hD
    have eh_21 := h_21
    subst eh_21
    exact gx_retI C (u := ()) gx_nil gx_noneD hS (by simp [gs_copy, c_1]) dX6_copy_20
set_option maxHeartbeats 4000000 in
set_option maxRecDepth 100000 in
theorem x_copy2 (l : Launch) (D : va_G) (k : Nat → ClassId) (ad : Nat → Nat) (fs : Nat → Option Nat) (a : Nat) (el : Nat) (a2 : Nat) (el2 : Nat) (pv : Int32) (qv : Int32) (iv : Int32) (jv : Int32) (nv : Int32) (hf : gx_b pv 0 7 = true → fs pv.toNatClampNeg = some a) (hf2 : gx_b qv 0 7 = true → fs qv.toNatClampNeg = some a2) (sz : Nat) : Met l yX6_copy (.code yX6_copy cX6_copy 7 (some .int) :: gx_T) ({ frames := 2, cells := 0, slots := 0, locals := 43 }) (gx_Pre D k [.ref (ad 0), .int pv, .int qv, .int iv, .int jv, .int nv] ([((ad 0), .inr (4, [.ref (ad 1), .ref (ad 2), .ref (ad 3), .ref (ad 4), .ref (ad 5), .ref (ad 6), .ref (ad 7), .ref (ad 8), .ref (ad 9), .int 0])), ((ad 9), .inl (k 0, 5, .inl (fun _ => 0))), ((ad 5), .inl (k 2, 8, .inr (.inr (.inr (.inr fs))))), (a, .inr (1, [.ref el, .int 0, .int 0, .int (-1)])), (a2, .inr (1, [.ref el2, .int 0, .int 0, .int (-1)]))]) sz) (gx_Qi D (fun (r : Int32) (u : Unit) => r = (gs_copy pv qv)) (fun (u : Unit) => ([] : va_W)) (va_A ([((ad 0), .inr (4, [.ref (ad 1), .ref (ad 2), .ref (ad 3), .ref (ad 4), .ref (ad 5), .ref (ad 6), .ref (ad 7), .ref (ad 8), .ref (ad 9), .int 0])), ((ad 9), .inl (k 0, 5, .inl (fun _ => 0))), ((ad 5), .inl (k 2, 8, .inr (.inr (.inr (.inr fs))))), (a, .inr (1, [.ref el, .int 0, .int 0, .int (-1)])), (a2, .inr (1, [.ref el2, .int 0, .int 0, .int (-1)]))]) sz)) 0 0 (va_A ([((ad 0), .inr (4, [.ref (ad 1), .ref (ad 2), .ref (ad 3), .ref (ad 4), .ref (ad 5), .ref (ad 6), .ref (ad 7), .ref (ad 8), .ref (ad 9), .int 0])), ((ad 9), .inl (k 0, 5, .inl (fun _ => 0))), ((ad 5), .inl (k 2, 8, .inr (.inr (.inr (.inr fs))))), (a, .inr (1, [.ref el, .int 0, .int 0, .int (-1)])), (a2, .inr (1, [.ref el2, .int 0, .int 0, .int (-1)]))]) sz) := by
  refine gx_metE (Qc := fun A => gx_Qi D (fun (r : Int32) (u : Unit) => r = (gs_copy pv qv)) (fun (u : Unit) => ([] : va_W)) A) (by decide) (Nat.le_of_ble_eq_true rfl) ?_
  intro p e s m below meth c A ls C hA hP hD hK hS hl
  obtain ⟨hx, hb, hr, hml, hown, hT, hlk, hin⟩ := id C
  have hown : s.vm.findClass RX6 = some m.cls := hown
  have hl : lv_has ls 7 [(0, .ref (ad 0)), (1, .int pv), (2, .int qv), (3, .int iv), (4, .int jv), (5, .int nv)] := hl
  refine lv_iload_n hx hb dX6_copy_0 rfl (lv_at hl 1 rfl) ?_
  refine gx_pi hP hS (gx_runS (na := 1) (As := [.int pv]) (rest := []) C hl.1 hK (gx_subP (wc := ([] : va_W)) hP [] rfl) ((hD.sub (ws' := ([] : va_W)) [] (by decide) rfl).weaken (fun _ _ _ _ => trivial)) (k_isShelf l D k pv _) gS_RX6_53 (by decide +kernel) rfl rfl ⟨Nat.le_of_ble_eq_true rfl, Nat.le_of_ble_eq_true rfl⟩ rfl rfl (Nat.le_of_ble_eq_true rfl) dX6_copy_1 ⟨Nat.le_of_ble_eq_true rfl, Nat.le_of_ble_eq_true rfl⟩) (fun r_2 H locs pc_1 hP hS => ?_)
  have oc_1 : r_2 = 1 ∧ gx_b pv 0 7 = true ∨ r_2 = 0 ∧ gx_b pv 0 7 = false := pc_1
  clear pc_1
  rcases oc_1 with ⟨rfl, c_1⟩ | ⟨rfl, c_1⟩
  · refine lv_if_eq (tgt := 14) hx hb dX6_copy_4 (by decide) (fun c_3 => absurd c_3 (by decide)) (fun c_3 => ?_)
    refine lv_iload_n hx hb dX6_copy_7 rfl (lv_at hl 2 rfl) ?_
    refine gx_pi hP hS (gx_runS (na := 1) (As := [.int qv]) (rest := []) C hl.1 hK (gx_subP (wc := ([] : va_W)) hP [] rfl) ((hD.sub (ws' := ([] : va_W)) [] (by decide) rfl).weaken (fun _ _ _ _ => trivial)) (k_isShelf l D k qv _) gS_RX6_53 (by decide +kernel) rfl rfl ⟨Nat.le_of_ble_eq_true rfl, Nat.le_of_ble_eq_true rfl⟩ rfl rfl (Nat.le_of_ble_eq_true rfl) dX6_copy_8 ⟨Nat.le_of_ble_eq_true rfl, Nat.le_of_ble_eq_true rfl⟩) (fun r_5 H locs pc_4 hP hS => ?_)
    have oc_4 : r_5 = 1 ∧ gx_b qv 0 7 = true ∨ r_5 = 0 ∧ gx_b qv 0 7 = false := pc_4
    clear pc_4
    rcases oc_4 with ⟨rfl, c_4⟩ | ⟨rfl, c_4⟩
    · refine lv_if_ne (tgt := 21) hx hb dX6_copy_11 (by decide) (fun c_6 => ?_) (fun c_6 => absurd c_6 (by decide))
      refine lv_aload_n hx hb dX6_copy_21 rfl (lv_at hl 0 rfl) ?_
      refine va_get (D := D) (ci := 4) (v := .ref (ad 5)) (C := RX6) (T := TX6) (N := 10) hx hb hT iw_TX6 hown hK.1 hP 0 rfl rfl 4 (by decide) (hT _ wd_275) (fun _ h9 => h9) rfl dX6_copy_22 ?_
      refine lv_iload_n hx hb dX6_copy_25 rfl (lv_at hl 1 rfl) ?_
      refine va_aldq hx hb hK.1 hP 2 2 rfl rfl (gx_vb c_1 (by decide) (by decide)) dX6_copy_26 ?_
      refine gx_csr (v := .ref a) (congrArg va_rf (hf c_1)) ?_
      refine lv_aload_n hx hb dX6_copy_27 rfl (lv_at hl 0 rfl) ?_
      refine va_get (D := D) (ci := 4) (v := .ref (ad 5)) (C := RX6) (T := TX6) (N := 10) hx hb hT iw_TX6 hown hK.1 hP 0 rfl rfl 4 (by decide) (hT _ wd_275) (fun _ h9 => h9) rfl dX6_copy_28 ?_
      refine lv_iload_n hx hb dX6_copy_31 rfl (lv_at hl 2 rfl) ?_
      refine va_aldq hx hb hK.1 hP 2 2 rfl rfl (gx_vb c_4 (by decide) (by decide)) dX6_copy_32 ?_
      refine gx_csr (v := .ref a2) (congrArg va_rf (hf2 c_4)) ?_
      refine gx_pi hP hS (gx_runS (na := 2) (As := [.ref a, .ref a2]) (rest := []) C hl.1 hK (gx_subP (wc := ([(a, .inr (1, [.ref el, .int 0, .int 0, .int (-1)])), (a2, .inr (1, [.ref el2, .int 0, .int 0, .int (-1)]))] : va_W)) hP [3, 4] rfl) ((hD.sub (ws' := ([(a, .inr (1, [.ref el, .int 0, .int 0, .int (-1)])), (a2, .inr (1, [.ref el2, .int 0, .int 0, .int (-1)]))] : va_W)) [3, 4] (by decide) rfl).weaken (fun _ _ _ _ => trivial)) (k_copyTrouble2 l D k a el a2 el2 _) gS_RX6_80 (by decide +kernel) rfl rfl ⟨Nat.le_of_ble_eq_true rfl, Nat.le_of_ble_eq_true rfl⟩ rfl rfl (Nat.le_of_ble_eq_true rfl) dX6_copy_33 ⟨Nat.le_of_ble_eq_true rfl, Nat.le_of_ble_eq_true rfl⟩) (fun r_8 H locs c_7 hP hS => ?_)
      have c_7 : r_8 = -4 := c_7
      subst c_7
      refine lv_istore (lv' := [(6, .int (-4)), (0, .ref (ad 0)), (1, .int pv), (2, .int qv), (3, .int iv), (4, .int jv), (5, .int nv)]) hx hb dX6_copy_36 hl (by decide) rfl (fun ls hl => ?_)
      refine lv_iload hx hb dX6_copy_38 (lv_at hl 0 rfl) ?_
      refine lv_if_eq (tgt := 50) hx hb dX6_copy_40 (by decide) (fun c_9 => absurd c_9 (by decide)) (fun c_9 => ?_)
      refine lv_aload_n hx hb dX6_copy_43 rfl (lv_at hl 1 rfl) ?_
      refine lv_iload hx hb dX6_copy_44 (lv_at hl 0 rfl) ?_
      refine gx_ei (wc := ([((ad 0), .inr (4, [.ref (ad 1), .ref (ad 2), .ref (ad 3), .ref (ad 4), .ref (ad 5), .ref (ad 6), .ref (ad 7), .ref (ad 8), .ref (ad 9), .int 0])), ((ad 9), .inl (k 0, 5, .inl (fun _ => 0)))] : va_W)) (wr := [((ad 5), .inl (k 2, 8, .inr (.inr (.inr (.inr fs))))), (a, .inr (1, [.ref el, .int 0, .int 0, .int (-1)])), (a2, .inr (1, [.ref el2, .int 0, .int 0, .int (-1)]))]) (isC := [0, 1]) (isR := [2, 3, 4]) hP hD hS hA rfl rfl (by decide) (by decide) (gx_runV (na := 1) (As := [.int (-4)]) (rest := []) (ci := 4) C hl.1 hK (gx_subP (wc := ([((ad 0), .inr (4, [.ref (ad 1), .ref (ad 2), .ref (ad 3), .ref (ad 4), .ref (ad 5), .ref (ad 6), .ref (ad 7), .ref (ad 8), .ref (ad 9), .int 0])), ((ad 9), .inl (k 0, 5, .inl (fun _ => 0)))] : va_W)) hP [0, 1] rfl) ((hD.sub (ws' := ([((ad 0), .inr (4, [.ref (ad 1), .ref (ad 2), .ref (ad 3), .ref (ad 4), .ref (ad 5), .ref (ad 6), .ref (ad 7), .ref (ad 8), .ref (ad 9), .int 0])), ((ad 9), .inl (k 0, 5, .inl (fun _ => 0)))] : va_W)) [0, 1] (by decide) rfl).weaken (fun _ _ _ _ => trivial)) (k_refuse4 l D k ad _) gV_RX6_61 (by decide +kernel) rfl rfl ⟨Nat.le_of_ble_eq_true rfl, Nat.le_of_ble_eq_true rfl⟩ rfl rfl rfl rfl (Nat.le_of_ble_eq_true rfl) dX6_copy_46 ⟨Nat.le_of_ble_eq_true rfl, Nat.le_of_ble_eq_true rfl⟩) (fun r_12 u_10 H locs h_11 hP hD hS => ?_)
      have h_11 : r_12 = -4 := h_11
      have hP : va_P D gx_cl [((ad 5), .inl (k 2, 8, .inr (.inr (.inr (.inr fs))))), (a, .inr (1, [.ref el, .int 0, .int 0, .int (-1)])), (a2, .inr (1, [.ref el2, .int 0, .int 0, .int (-1)]))] H := hP
      have hD : va_D A [((ad 5), .inl (k 2, 8, .inr (.inr (.inr (.inr fs))))), (a, .inr (1, [.ref el, .int 0, .int 0, .int (-1)])), (a2, .inr (1, [.ref el2, .int 0, .int 0, .int (-1)]))] := hD
      have eh_11 := h_11
      subst eh_11
      exact gx_retI C (u := ()) gx_nil gx_noneD hS (by simp [gs_copy, c_1, c_4]) dX6_copy_49
    · refine lv_if_ne (tgt := 21) hx hb dX6_copy_11 (by decide) (fun c_14 => absurd (by decide) c_14) (fun c_14 => ?_)
      refine lv_aload_n hx hb dX6_copy_14 rfl (lv_at hl 0 rfl) ?_
      refine lv_bipush (v := (-2)) hx hb dX6_copy_15 (by decide) ?_
      refine gx_ei (wc := ([((ad 0), .inr (4, [.ref (ad 1), .ref (ad 2), .ref (ad 3), .ref (ad 4), .ref (ad 5), .ref (ad 6), .ref (ad 7), .ref (ad 8), .ref (ad 9), .int 0])), ((ad 9), .inl (k 0, 5, .inl (fun _ => 0)))] : va_W)) (wr := [((ad 5), .inl (k 2, 8, .inr (.inr (.inr (.inr fs))))), (a, .inr (1, [.ref el, .int 0, .int 0, .int (-1)])), (a2, .inr (1, [.ref el2, .int 0, .int 0, .int (-1)]))]) (isC := [0, 1]) (isR := [2, 3, 4]) hP hD hS hA rfl rfl (by decide) (by decide) (gx_runV (na := 1) (As := [.int (-2)]) (rest := []) (ci := 4) C hl.1 hK (gx_subP (wc := ([((ad 0), .inr (4, [.ref (ad 1), .ref (ad 2), .ref (ad 3), .ref (ad 4), .ref (ad 5), .ref (ad 6), .ref (ad 7), .ref (ad 8), .ref (ad 9), .int 0])), ((ad 9), .inl (k 0, 5, .inl (fun _ => 0)))] : va_W)) hP [0, 1] rfl) ((hD.sub (ws' := ([((ad 0), .inr (4, [.ref (ad 1), .ref (ad 2), .ref (ad 3), .ref (ad 4), .ref (ad 5), .ref (ad 6), .ref (ad 7), .ref (ad 8), .ref (ad 9), .int 0])), ((ad 9), .inl (k 0, 5, .inl (fun _ => 0)))] : va_W)) [0, 1] (by decide) rfl).weaken (fun _ _ _ _ => trivial)) (k_refuse2 l D k ad _) gV_RX6_61 (by decide +kernel) rfl rfl ⟨Nat.le_of_ble_eq_true rfl, Nat.le_of_ble_eq_true rfl⟩ rfl rfl rfl rfl (Nat.le_of_ble_eq_true rfl) dX6_copy_17 ⟨Nat.le_of_ble_eq_true rfl, Nat.le_of_ble_eq_true rfl⟩) (fun r_17 u_15 H locs h_16 hP hD hS => ?_)
      have h_16 : r_17 = -2 := h_16
      have hP : va_P D gx_cl [((ad 5), .inl (k 2, 8, .inr (.inr (.inr (.inr fs))))), (a, .inr (1, [.ref el, .int 0, .int 0, .int (-1)])), (a2, .inr (1, [.ref el2, .int 0, .int 0, .int (-1)]))] H := hP
      have hD : va_D A [((ad 5), .inl (k 2, 8, .inr (.inr (.inr (.inr fs))))), (a, .inr (1, [.ref el, .int 0, .int 0, .int (-1)])), (a2, .inr (1, [.ref el2, .int 0, .int 0, .int (-1)]))] := hD
      have eh_16 := h_16
      subst eh_16
      exact gx_retI C (u := ()) gx_nil gx_noneD hS (by simp [gs_copy, c_1, c_4]) dX6_copy_20
  · refine lv_if_eq (tgt := 14) hx hb dX6_copy_4 (by decide) (fun c_19 => ?_) (fun c_19 => absurd (by decide) c_19)
    refine lv_aload_n hx hb dX6_copy_14 rfl (lv_at hl 0 rfl) ?_
    refine lv_bipush (v := (-2)) hx hb dX6_copy_15 (by decide) ?_
    refine gx_ei (wc := ([((ad 0), .inr (4, [.ref (ad 1), .ref (ad 2), .ref (ad 3), .ref (ad 4), .ref (ad 5), .ref (ad 6), .ref (ad 7), .ref (ad 8), .ref (ad 9), .int 0])), ((ad 9), .inl (k 0, 5, .inl (fun _ => 0)))] : va_W)) (wr := [((ad 5), .inl (k 2, 8, .inr (.inr (.inr (.inr fs))))), (a, .inr (1, [.ref el, .int 0, .int 0, .int (-1)])), (a2, .inr (1, [.ref el2, .int 0, .int 0, .int (-1)]))]) (isC := [0, 1]) (isR := [2, 3, 4]) hP hD hS hA rfl rfl (by decide) (by decide) (gx_runV (na := 1) (As := [.int (-2)]) (rest := []) (ci := 4) C hl.1 hK (gx_subP (wc := ([((ad 0), .inr (4, [.ref (ad 1), .ref (ad 2), .ref (ad 3), .ref (ad 4), .ref (ad 5), .ref (ad 6), .ref (ad 7), .ref (ad 8), .ref (ad 9), .int 0])), ((ad 9), .inl (k 0, 5, .inl (fun _ => 0)))] : va_W)) hP [0, 1] rfl) ((hD.sub (ws' := ([((ad 0), .inr (4, [.ref (ad 1), .ref (ad 2), .ref (ad 3), .ref (ad 4), .ref (ad 5), .ref (ad 6), .ref (ad 7), .ref (ad 8), .ref (ad 9), .int 0])), ((ad 9), .inl (k 0, 5, .inl (fun _ => 0)))] : va_W)) [0, 1] (by decide) rfl).weaken (fun _ _ _ _ => trivial)) (k_refuse2 l D k ad _) gV_RX6_61 (by decide +kernel) rfl rfl ⟨Nat.le_of_ble_eq_true rfl, Nat.le_of_ble_eq_true rfl⟩ rfl rfl rfl rfl (Nat.le_of_ble_eq_true rfl) dX6_copy_17 ⟨Nat.le_of_ble_eq_true rfl, Nat.le_of_ble_eq_true rfl⟩) (fun r_22 u_20 H locs h_21 hP hD hS => ?_)
    have h_21 : r_22 = -2 := h_21
    have hP : va_P D gx_cl [((ad 5), .inl (k 2, 8, .inr (.inr (.inr (.inr fs))))), (a, .inr (1, [.ref el, .int 0, .int 0, .int (-1)])), (a2, .inr (1, [.ref el2, .int 0, .int 0, .int (-1)]))] H := hP
    have hD : va_D A [((ad 5), .inl (k 2, 8, .inr (.inr (.inr (.inr fs))))), (a, .inr (1, [.ref el, .int 0, .int 0, .int (-1)])), (a2, .inr (1, [.ref el2, .int 0, .int 0, .int (-1)]))] := hD
    have eh_21 := h_21
    subst eh_21
    exact gx_retI C (u := ()) gx_nil gx_noneD hS (by simp [gs_copy, c_1]) dX6_copy_20
set_option maxHeartbeats 4000000 in
set_option maxRecDepth 100000 in
theorem x_element (l : Launch) (D : va_G) (k : Nat → ClassId) (ad : Nat → Nat) (fs : Nat → Option Nat) (a : Nat) (el : Nat) (sv : Int32) (iv : Int32) (hf : gx_b sv 0 7 = true → fs sv.toNatClampNeg = some a) (sz : Nat) : Met l yX6_element (.code yX6_element cX6_element 3 (some .long) :: gx_T) ({ frames := 2, cells := 0, slots := 0, locals := 42 }) (gx_Pre D k [.ref (ad 0), .int sv, .int iv] ([((ad 0), .inr (4, [.ref (ad 1), .ref (ad 2), .ref (ad 3), .ref (ad 4), .ref (ad 5), .ref (ad 6), .ref (ad 7), .ref (ad 8), .ref (ad 9), .int 0])), ((ad 5), .inl (k 2, 8, .inr (.inr (.inr (.inr fs))))), (a, .inr (1, [.ref el, .int 0, .int 0, .int (-1)]))]) sz) (gx_Pl (fun r => r = 0)) 0 0 gx_No := by
  refine gx_metP (by decide) (Nat.le_of_ble_eq_true rfl) ?_
  intro p e s m below meth c ls C hP hD hK hS hl
  obtain ⟨hx, hb, hr, hml, hown, hT, hlk, hin⟩ := id C
  have hown : s.vm.findClass RX6 = some m.cls := hown
  have hl : lv_has ls 3 [(0, .ref (ad 0)), (1, .int sv), (2, .int iv)] := hl
  refine lv_iload_n hx hb dX6_element_0 rfl (lv_at hl 1 rfl) ?_
  refine gx_pi hP hS (gx_runS (na := 1) (As := [.int sv]) (rest := []) C hl.1 hK (gx_subP (wc := ([] : va_W)) hP [] rfl) ((hD.sub (ws' := ([] : va_W)) [] (by decide) rfl).weaken (fun _ _ _ _ => trivial)) (k_isShelf l D k sv _) gS_RX6_53 (by decide +kernel) rfl rfl ⟨Nat.le_of_ble_eq_true rfl, Nat.le_of_ble_eq_true rfl⟩ rfl rfl (Nat.le_of_ble_eq_true rfl) dX6_element_1 ⟨Nat.le_of_ble_eq_true rfl, Nat.le_of_ble_eq_true rfl⟩) (fun r_2 H locs pc_1 hP hS => ?_)
  have oc_1 : r_2 = 1 ∧ gx_b sv 0 7 = true ∨ r_2 = 0 ∧ gx_b sv 0 7 = false := pc_1
  clear pc_1
  rcases oc_1 with ⟨rfl, c_1⟩ | ⟨rfl, c_1⟩
  · refine lv_if_eq (tgt := 38) hx hb dX6_element_4 (by decide) (fun c_3 => absurd c_3 (by decide)) (fun c_3 => ?_)
    refine lv_aload_n hx hb dX6_element_7 rfl (lv_at hl 0 rfl) ?_
    refine va_get (D := D) (ci := 4) (v := .ref (ad 5)) (C := RX6) (T := TX6) (N := 10) hx hb hT iw_TX6 hown hK.1 hP 0 rfl rfl 4 (by decide) (hT _ wd_275) (fun _ h9 => h9) rfl dX6_element_8 ?_
    refine lv_iload_n hx hb dX6_element_11 rfl (lv_at hl 1 rfl) ?_
    refine va_aldq hx hb hK.1 hP 1 2 rfl rfl (gx_vb c_1 (by decide) (by decide)) dX6_element_12 ?_
    refine gx_csr (v := .ref a) (congrArg va_rf (hf c_1)) ?_
    refine gx_pi hP hS (gx_runV (na := 0) (As := []) (rest := []) (ci := 1) C hl.1 hK (gx_subP (wc := ([(a, .inr (1, [.ref el, .int 0, .int 0, .int (-1)]))] : va_W)) hP [2] rfl) ((hD.sub (ws' := ([(a, .inr (1, [.ref el, .int 0, .int 0, .int (-1)]))] : va_W)) [2] (by decide) rfl).weaken (fun _ _ _ _ => trivial)) (k_isRow l D k a el 0 0 _) gV_RX6_98 (by decide +kernel) rfl rfl ⟨Nat.le_of_ble_eq_true rfl, Nat.le_of_ble_eq_true rfl⟩ rfl rfl rfl rfl (Nat.le_of_ble_eq_true rfl) dX6_element_13 ⟨Nat.le_of_ble_eq_true rfl, Nat.le_of_ble_eq_true rfl⟩) (fun r_5 H locs c_4 hP hS => ?_)
    have c_4 : r_5 = 0 := c_4
    subst c_4
    refine lv_if_eq (tgt := 38) hx hb dX6_element_16 (by decide) (fun c_6 => ?_) (fun c_6 => absurd (by decide) c_6)
    refine lv_lconst (v := 0) hx hb dX6_element_38 (by decide) ?_
    exact gx_retPL C hS (rfl) dX6_element_39
  · refine lv_if_eq (tgt := 38) hx hb dX6_element_4 (by decide) (fun c_7 => ?_) (fun c_7 => absurd (by decide) c_7)
    refine lv_lconst (v := 0) hx hb dX6_element_38 (by decide) ?_
    exact gx_retPL C hS (rfl) dX6_element_39
set_option maxHeartbeats 4000000 in
set_option maxRecDepth 100000 in
theorem x_holds (l : Launch) (D : va_G) (k : Nat → ClassId) (ad : Nat → Nat) (fs : Nat → Option Nat) (a : Nat) (el : Nat) (sv : Int32) (hf : gx_b sv 0 7 = true → fs sv.toNatClampNeg = some a) (sz : Nat) : Met l yX6_holds (.code yX6_holds cX6_holds 2 (some .int) :: gx_T) ({ frames := 2, cells := 0, slots := 0, locals := 42 }) (gx_Pre D k [.ref (ad 0), .int sv] ([((ad 0), .inr (4, [.ref (ad 1), .ref (ad 2), .ref (ad 3), .ref (ad 4), .ref (ad 5), .ref (ad 6), .ref (ad 7), .ref (ad 8), .ref (ad 9), .int 0])), ((ad 5), .inl (k 2, 8, .inr (.inr (.inr (.inr fs))))), (a, .inr (1, [.ref el, .int 0, .int 0, .int (-1)]))]) sz) (gx_Pi (fun r => r = -1)) 0 0 gx_No := by
  refine gx_metP (by decide) (Nat.le_of_ble_eq_true rfl) ?_
  intro p e s m below meth c ls C hP hD hK hS hl
  obtain ⟨hx, hb, hr, hml, hown, hT, hlk, hin⟩ := id C
  have hown : s.vm.findClass RX6 = some m.cls := hown
  have hl : lv_has ls 2 [(0, .ref (ad 0)), (1, .int sv)] := hl
  refine lv_iload_n hx hb dX6_holds_0 rfl (lv_at hl 1 rfl) ?_
  refine gx_pi hP hS (gx_runS (na := 1) (As := [.int sv]) (rest := []) C hl.1 hK (gx_subP (wc := ([] : va_W)) hP [] rfl) ((hD.sub (ws' := ([] : va_W)) [] (by decide) rfl).weaken (fun _ _ _ _ => trivial)) (k_isShelf l D k sv _) gS_RX6_53 (by decide +kernel) rfl rfl ⟨Nat.le_of_ble_eq_true rfl, Nat.le_of_ble_eq_true rfl⟩ rfl rfl (Nat.le_of_ble_eq_true rfl) dX6_holds_1 ⟨Nat.le_of_ble_eq_true rfl, Nat.le_of_ble_eq_true rfl⟩) (fun r_2 H locs pc_1 hP hS => ?_)
  have oc_1 : r_2 = 1 ∧ gx_b sv 0 7 = true ∨ r_2 = 0 ∧ gx_b sv 0 7 = false := pc_1
  clear pc_1
  rcases oc_1 with ⟨rfl, c_1⟩ | ⟨rfl, c_1⟩
  · refine lv_if_eq (tgt := 19) hx hb dX6_holds_4 (by decide) (fun c_3 => absurd c_3 (by decide)) (fun c_3 => ?_)
    refine lv_aload_n hx hb dX6_holds_7 rfl (lv_at hl 0 rfl) ?_
    refine va_get (D := D) (ci := 4) (v := .ref (ad 5)) (C := RX6) (T := TX6) (N := 10) hx hb hT iw_TX6 hown hK.1 hP 0 rfl rfl 4 (by decide) (hT _ wd_275) (fun _ h9 => h9) rfl dX6_holds_8 ?_
    refine lv_iload_n hx hb dX6_holds_11 rfl (lv_at hl 1 rfl) ?_
    refine va_aldq hx hb hK.1 hP 1 2 rfl rfl (gx_vb c_1 (by decide) (by decide)) dX6_holds_12 ?_
    refine gx_csr (v := .ref a) (congrArg va_rf (hf c_1)) ?_
    refine va_get (D := D) (ci := 1) (v := .int (-1)) (C := RX3) (T := TX3) (N := 4) hx hb hT iw_TX3 hown hK.1 hP 2 rfl rfl 3 (by decide) (hT _ wd_260) (fun _ h9 => h9) rfl dX6_holds_13 ?_
    refine lv_goto (tgt := 20) hx hb dX6_holds_16 (by decide) ?_
    exact gx_retP C hS (rfl) dX6_holds_20
  · refine lv_if_eq (tgt := 19) hx hb dX6_holds_4 (by decide) (fun c_4 => ?_) (fun c_4 => absurd (by decide) c_4)
    refine lv_iconst (v := (-1)) hx hb dX6_holds_19 (by decide) ?_
    exact gx_retP C hS (rfl) dX6_holds_20
set_option maxHeartbeats 4000000 in
set_option maxRecDepth 100000 in
theorem x_rule (l : Launch) (D : va_G) (k : Nat → ClassId) (ad : Nat → Nat) (fs : Nat → Option Nat) (a : Nat) (el : Nat) (sv : Int32) (kv : Int32) (av : Int32) (hf : gx_b sv 0 7 = true → fs sv.toNatClampNeg = some a) (sz : Nat) : Met l yX6_rule (.code yX6_rule cX6_rule 4 (some .int) :: gx_T) ({ frames := 2, cells := 0, slots := 0, locals := 43 }) (gx_Pre D k [.ref (ad 0), .int sv, .int kv, .int av] ([((ad 0), .inr (4, [.ref (ad 1), .ref (ad 2), .ref (ad 3), .ref (ad 4), .ref (ad 5), .ref (ad 6), .ref (ad 7), .ref (ad 8), .ref (ad 9), .int 0])), ((ad 9), .inl (k 0, 5, .inl (fun _ => 0))), ((ad 5), .inl (k 2, 8, .inr (.inr (.inr (.inr fs))))), (a, .inr (1, [.ref el, .int 0, .int 0, .int (-1)]))]) sz) (gx_Qi D (fun (r : Int32) (u : Unit) => r = (gs_rule sv kv av)) (fun (u : Unit) => ([] : va_W)) (va_A ([((ad 0), .inr (4, [.ref (ad 1), .ref (ad 2), .ref (ad 3), .ref (ad 4), .ref (ad 5), .ref (ad 6), .ref (ad 7), .ref (ad 8), .ref (ad 9), .int 0])), ((ad 9), .inl (k 0, 5, .inl (fun _ => 0))), ((ad 5), .inl (k 2, 8, .inr (.inr (.inr (.inr fs))))), (a, .inr (1, [.ref el, .int 0, .int 0, .int (-1)]))]) sz)) 0 0 (va_A ([((ad 0), .inr (4, [.ref (ad 1), .ref (ad 2), .ref (ad 3), .ref (ad 4), .ref (ad 5), .ref (ad 6), .ref (ad 7), .ref (ad 8), .ref (ad 9), .int 0])), ((ad 9), .inl (k 0, 5, .inl (fun _ => 0))), ((ad 5), .inl (k 2, 8, .inr (.inr (.inr (.inr fs))))), (a, .inr (1, [.ref el, .int 0, .int 0, .int (-1)]))]) sz) := by
  refine gx_metE (Qc := fun A => gx_Qi D (fun (r : Int32) (u : Unit) => r = (gs_rule sv kv av)) (fun (u : Unit) => ([] : va_W)) A) (by decide) (Nat.le_of_ble_eq_true rfl) ?_
  intro p e s m below meth c A ls C hA hP hD hK hS hl
  obtain ⟨hx, hb, hr, hml, hown, hT, hlk, hin⟩ := id C
  have hown : s.vm.findClass RX6 = some m.cls := hown
  have hl : lv_has ls 4 [(0, .ref (ad 0)), (1, .int sv), (2, .int kv), (3, .int av)] := hl
  refine lv_iload_n hx hb dX6_rule_0 rfl (lv_at hl 1 rfl) ?_
  refine gx_pi hP hS (gx_runS (na := 1) (As := [.int sv]) (rest := []) C hl.1 hK (gx_subP (wc := ([] : va_W)) hP [] rfl) ((hD.sub (ws' := ([] : va_W)) [] (by decide) rfl).weaken (fun _ _ _ _ => trivial)) (k_isShelf l D k sv _) gS_RX6_53 (by decide +kernel) rfl rfl ⟨Nat.le_of_ble_eq_true rfl, Nat.le_of_ble_eq_true rfl⟩ rfl rfl (Nat.le_of_ble_eq_true rfl) dX6_rule_1 ⟨Nat.le_of_ble_eq_true rfl, Nat.le_of_ble_eq_true rfl⟩) (fun r_2 H locs pc_1 hP hS => ?_)
  have oc_1 : r_2 = 1 ∧ gx_b sv 0 7 = true ∨ r_2 = 0 ∧ gx_b sv 0 7 = false := pc_1
  clear pc_1
  rcases oc_1 with ⟨rfl, c_1⟩ | ⟨rfl, c_1⟩
  · refine lv_if_eq (tgt := 27) hx hb dX6_rule_4 (by decide) (fun c_3 => absurd c_3 (by decide)) (fun c_3 => ?_)
    refine lv_iload_n hx hb dX6_rule_7 rfl (lv_at hl 2 rfl) ?_
    refine lv_iconst (v := 1) hx hb dX6_rule_8 (by decide) ?_
    refine lv_bipush (v := 6) hx hb dX6_rule_9 (by decide) ?_
    refine gx_pi hP hS (gx_runS (na := 3) (As := [.int kv, .int 1, .int 6]) (rest := []) C hl.1 hK (gx_subP (wc := ([] : va_W)) hP [] rfl) ((hD.sub (ws' := ([] : va_W)) [] (by decide) rfl).weaken (fun _ _ _ _ => trivial)) (k_isBetween l D k kv 1 6 _) gS_RX6_57 (by decide +kernel) rfl rfl ⟨Nat.le_of_ble_eq_true rfl, Nat.le_of_ble_eq_true rfl⟩ rfl rfl (Nat.le_of_ble_eq_true rfl) dX6_rule_11 ⟨Nat.le_of_ble_eq_true rfl, Nat.le_of_ble_eq_true rfl⟩) (fun r_5 H locs pc_4 hP hS => ?_)
    have oc_4 : r_5 = 1 ∧ gx_b kv 1 6 = true ∨ r_5 = 0 ∧ gx_b kv 1 6 = false := pc_4
    clear pc_4
    rcases oc_4 with ⟨rfl, c_4⟩ | ⟨rfl, c_4⟩
    · refine lv_if_eq (tgt := 27) hx hb dX6_rule_14 (by decide) (fun c_6 => absurd c_6 (by decide)) (fun c_6 => ?_)
      refine lv_iload_n hx hb dX6_rule_17 rfl (lv_at hl 3 rfl) ?_
      refine lv_iconst (v := 0) hx hb dX6_rule_18 (by decide) ?_
      refine lv_bipush (v := 99) hx hb dX6_rule_19 (by decide) ?_
      refine gx_pi hP hS (gx_runS (na := 3) (As := [.int av, .int 0, .int 99]) (rest := []) C hl.1 hK (gx_subP (wc := ([] : va_W)) hP [] rfl) ((hD.sub (ws' := ([] : va_W)) [] (by decide) rfl).weaken (fun _ _ _ _ => trivial)) (k_isBetween l D k av 0 99 _) gS_RX6_57 (by decide +kernel) rfl rfl ⟨Nat.le_of_ble_eq_true rfl, Nat.le_of_ble_eq_true rfl⟩ rfl rfl (Nat.le_of_ble_eq_true rfl) dX6_rule_21 ⟨Nat.le_of_ble_eq_true rfl, Nat.le_of_ble_eq_true rfl⟩) (fun r_8 H locs pc_7 hP hS => ?_)
      have oc_7 : r_8 = 1 ∧ gx_b av 0 99 = true ∨ r_8 = 0 ∧ gx_b av 0 99 = false := pc_7
      clear pc_7
      rcases oc_7 with ⟨rfl, c_7⟩ | ⟨rfl, c_7⟩
      · refine lv_if_ne (tgt := 34) hx hb dX6_rule_24 (by decide) (fun c_9 => ?_) (fun c_9 => absurd c_9 (by decide))
        refine lv_aload_n hx hb dX6_rule_34 rfl (lv_at hl 0 rfl) ?_
        refine va_get (D := D) (ci := 4) (v := .ref (ad 5)) (C := RX6) (T := TX6) (N := 10) hx hb hT iw_TX6 hown hK.1 hP 0 rfl rfl 4 (by decide) (hT _ wd_275) (fun _ h9 => h9) rfl dX6_rule_35 ?_
        refine lv_iload_n hx hb dX6_rule_38 rfl (lv_at hl 1 rfl) ?_
        refine va_aldq hx hb hK.1 hP 2 2 rfl rfl (gx_vb c_1 (by decide) (by decide)) dX6_rule_39 ?_
        refine gx_csr (v := .ref a) (congrArg va_rf (hf c_1)) ?_
        refine lv_iload_n hx hb dX6_rule_40 rfl (lv_at hl 2 rfl) ?_
        refine lv_iload_n hx hb dX6_rule_41 rfl (lv_at hl 3 rfl) ?_
        refine gx_ev (wc := ([(a, .inr (1, [.ref el, .int 0, .int 0, .int (-1)]))] : va_W)) (wr := [((ad 0), .inr (4, [.ref (ad 1), .ref (ad 2), .ref (ad 3), .ref (ad 4), .ref (ad 5), .ref (ad 6), .ref (ad 7), .ref (ad 8), .ref (ad 9), .int 0])), ((ad 9), .inl (k 0, 5, .inl (fun _ => 0))), ((ad 5), .inl (k 2, 8, .inr (.inr (.inr (.inr fs)))))]) (isC := [3]) (isR := [0, 1, 2]) hP hD hS hA rfl rfl (by decide) (by decide) (gx_runV (na := 2) (As := [.int kv, .int av]) (rest := []) (ci := 1) C hl.1 hK (gx_subP (wc := ([(a, .inr (1, [.ref el, .int 0, .int 0, .int (-1)]))] : va_W)) hP [3] rfl) ((hD.sub (ws' := ([(a, .inr (1, [.ref el, .int 0, .int 0, .int (-1)]))] : va_W)) [3] (by decide) rfl).weaken (fun _ _ _ _ => trivial)) (k_becomeRule l D k a el kv av _) gV_RX6_107 (by decide +kernel) rfl rfl ⟨Nat.le_of_ble_eq_true rfl, Nat.le_of_ble_eq_true rfl⟩ rfl rfl rfl rfl (Nat.le_of_ble_eq_true rfl) dX6_rule_42 ⟨Nat.le_of_ble_eq_true rfl, Nat.le_of_ble_eq_true rfl⟩) (fun u_10 H locs h_11 hP hD hS => ?_)
        have hP : va_P D gx_cl [((ad 0), .inr (4, [.ref (ad 1), .ref (ad 2), .ref (ad 3), .ref (ad 4), .ref (ad 5), .ref (ad 6), .ref (ad 7), .ref (ad 8), .ref (ad 9), .int 0])), ((ad 9), .inl (k 0, 5, .inl (fun _ => 0))), ((ad 5), .inl (k 2, 8, .inr (.inr (.inr (.inr fs)))))] H := hP
        have hD : va_D A [((ad 0), .inr (4, [.ref (ad 1), .ref (ad 2), .ref (ad 3), .ref (ad 4), .ref (ad 5), .ref (ad 6), .ref (ad 7), .ref (ad 8), .ref (ad 9), .int 0])), ((ad 9), .inl (k 0, 5, .inl (fun _ => 0))), ((ad 5), .inl (k 2, 8, .inr (.inr (.inr (.inr fs)))))] := hD
        refine lv_iconst (v := 1) hx hb dX6_rule_45 (by decide) ?_
        exact gx_retI C (u := ()) gx_nil gx_noneD hS (by simp [gs_rule, c_1, c_4, c_7]) dX6_rule_46
      · refine lv_if_ne (tgt := 34) hx hb dX6_rule_24 (by decide) (fun c_14 => absurd (by decide) c_14) (fun c_14 => ?_)
        refine lv_aload_n hx hb dX6_rule_27 rfl (lv_at hl 0 rfl) ?_
        refine lv_bipush (v := (-2)) hx hb dX6_rule_28 (by decide) ?_
        refine gx_ei (wc := ([((ad 0), .inr (4, [.ref (ad 1), .ref (ad 2), .ref (ad 3), .ref (ad 4), .ref (ad 5), .ref (ad 6), .ref (ad 7), .ref (ad 8), .ref (ad 9), .int 0])), ((ad 9), .inl (k 0, 5, .inl (fun _ => 0)))] : va_W)) (wr := [((ad 5), .inl (k 2, 8, .inr (.inr (.inr (.inr fs))))), (a, .inr (1, [.ref el, .int 0, .int 0, .int (-1)]))]) (isC := [0, 1]) (isR := [2, 3]) hP hD hS hA rfl rfl (by decide) (by decide) (gx_runV (na := 1) (As := [.int (-2)]) (rest := []) (ci := 4) C hl.1 hK (gx_subP (wc := ([((ad 0), .inr (4, [.ref (ad 1), .ref (ad 2), .ref (ad 3), .ref (ad 4), .ref (ad 5), .ref (ad 6), .ref (ad 7), .ref (ad 8), .ref (ad 9), .int 0])), ((ad 9), .inl (k 0, 5, .inl (fun _ => 0)))] : va_W)) hP [0, 1] rfl) ((hD.sub (ws' := ([((ad 0), .inr (4, [.ref (ad 1), .ref (ad 2), .ref (ad 3), .ref (ad 4), .ref (ad 5), .ref (ad 6), .ref (ad 7), .ref (ad 8), .ref (ad 9), .int 0])), ((ad 9), .inl (k 0, 5, .inl (fun _ => 0)))] : va_W)) [0, 1] (by decide) rfl).weaken (fun _ _ _ _ => trivial)) (k_refuse2 l D k ad _) gV_RX6_61 (by decide +kernel) rfl rfl ⟨Nat.le_of_ble_eq_true rfl, Nat.le_of_ble_eq_true rfl⟩ rfl rfl rfl rfl (Nat.le_of_ble_eq_true rfl) dX6_rule_30 ⟨Nat.le_of_ble_eq_true rfl, Nat.le_of_ble_eq_true rfl⟩) (fun r_17 u_15 H locs h_16 hP hD hS => ?_)
        have h_16 : r_17 = -2 := h_16
        have hP : va_P D gx_cl [((ad 5), .inl (k 2, 8, .inr (.inr (.inr (.inr fs))))), (a, .inr (1, [.ref el, .int 0, .int 0, .int (-1)]))] H := hP
        have hD : va_D A [((ad 5), .inl (k 2, 8, .inr (.inr (.inr (.inr fs))))), (a, .inr (1, [.ref el, .int 0, .int 0, .int (-1)]))] := hD
        have eh_16 := h_16
        subst eh_16
        exact gx_retI C (u := ()) gx_nil gx_noneD hS (by simp [gs_rule, c_1, c_4, c_7]) dX6_rule_33
    · refine lv_if_eq (tgt := 27) hx hb dX6_rule_14 (by decide) (fun c_19 => ?_) (fun c_19 => absurd (by decide) c_19)
      refine lv_aload_n hx hb dX6_rule_27 rfl (lv_at hl 0 rfl) ?_
      refine lv_bipush (v := (-2)) hx hb dX6_rule_28 (by decide) ?_
      refine gx_ei (wc := ([((ad 0), .inr (4, [.ref (ad 1), .ref (ad 2), .ref (ad 3), .ref (ad 4), .ref (ad 5), .ref (ad 6), .ref (ad 7), .ref (ad 8), .ref (ad 9), .int 0])), ((ad 9), .inl (k 0, 5, .inl (fun _ => 0)))] : va_W)) (wr := [((ad 5), .inl (k 2, 8, .inr (.inr (.inr (.inr fs))))), (a, .inr (1, [.ref el, .int 0, .int 0, .int (-1)]))]) (isC := [0, 1]) (isR := [2, 3]) hP hD hS hA rfl rfl (by decide) (by decide) (gx_runV (na := 1) (As := [.int (-2)]) (rest := []) (ci := 4) C hl.1 hK (gx_subP (wc := ([((ad 0), .inr (4, [.ref (ad 1), .ref (ad 2), .ref (ad 3), .ref (ad 4), .ref (ad 5), .ref (ad 6), .ref (ad 7), .ref (ad 8), .ref (ad 9), .int 0])), ((ad 9), .inl (k 0, 5, .inl (fun _ => 0)))] : va_W)) hP [0, 1] rfl) ((hD.sub (ws' := ([((ad 0), .inr (4, [.ref (ad 1), .ref (ad 2), .ref (ad 3), .ref (ad 4), .ref (ad 5), .ref (ad 6), .ref (ad 7), .ref (ad 8), .ref (ad 9), .int 0])), ((ad 9), .inl (k 0, 5, .inl (fun _ => 0)))] : va_W)) [0, 1] (by decide) rfl).weaken (fun _ _ _ _ => trivial)) (k_refuse2 l D k ad _) gV_RX6_61 (by decide +kernel) rfl rfl ⟨Nat.le_of_ble_eq_true rfl, Nat.le_of_ble_eq_true rfl⟩ rfl rfl rfl rfl (Nat.le_of_ble_eq_true rfl) dX6_rule_30 ⟨Nat.le_of_ble_eq_true rfl, Nat.le_of_ble_eq_true rfl⟩) (fun r_22 u_20 H locs h_21 hP hD hS => ?_)
      have h_21 : r_22 = -2 := h_21
      have hP : va_P D gx_cl [((ad 5), .inl (k 2, 8, .inr (.inr (.inr (.inr fs))))), (a, .inr (1, [.ref el, .int 0, .int 0, .int (-1)]))] H := hP
      have hD : va_D A [((ad 5), .inl (k 2, 8, .inr (.inr (.inr (.inr fs))))), (a, .inr (1, [.ref el, .int 0, .int 0, .int (-1)]))] := hD
      have eh_21 := h_21
      subst eh_21
      exact gx_retI C (u := ()) gx_nil gx_noneD hS (by simp [gs_rule, c_1, c_4]) dX6_rule_33
  · refine lv_if_eq (tgt := 27) hx hb dX6_rule_4 (by decide) (fun c_24 => ?_) (fun c_24 => absurd (by decide) c_24)
    refine lv_aload_n hx hb dX6_rule_27 rfl (lv_at hl 0 rfl) ?_
    refine lv_bipush (v := (-2)) hx hb dX6_rule_28 (by decide) ?_
    refine gx_ei (wc := ([((ad 0), .inr (4, [.ref (ad 1), .ref (ad 2), .ref (ad 3), .ref (ad 4), .ref (ad 5), .ref (ad 6), .ref (ad 7), .ref (ad 8), .ref (ad 9), .int 0])), ((ad 9), .inl (k 0, 5, .inl (fun _ => 0)))] : va_W)) (wr := [((ad 5), .inl (k 2, 8, .inr (.inr (.inr (.inr fs))))), (a, .inr (1, [.ref el, .int 0, .int 0, .int (-1)]))]) (isC := [0, 1]) (isR := [2, 3]) hP hD hS hA rfl rfl (by decide) (by decide) (gx_runV (na := 1) (As := [.int (-2)]) (rest := []) (ci := 4) C hl.1 hK (gx_subP (wc := ([((ad 0), .inr (4, [.ref (ad 1), .ref (ad 2), .ref (ad 3), .ref (ad 4), .ref (ad 5), .ref (ad 6), .ref (ad 7), .ref (ad 8), .ref (ad 9), .int 0])), ((ad 9), .inl (k 0, 5, .inl (fun _ => 0)))] : va_W)) hP [0, 1] rfl) ((hD.sub (ws' := ([((ad 0), .inr (4, [.ref (ad 1), .ref (ad 2), .ref (ad 3), .ref (ad 4), .ref (ad 5), .ref (ad 6), .ref (ad 7), .ref (ad 8), .ref (ad 9), .int 0])), ((ad 9), .inl (k 0, 5, .inl (fun _ => 0)))] : va_W)) [0, 1] (by decide) rfl).weaken (fun _ _ _ _ => trivial)) (k_refuse2 l D k ad _) gV_RX6_61 (by decide +kernel) rfl rfl ⟨Nat.le_of_ble_eq_true rfl, Nat.le_of_ble_eq_true rfl⟩ rfl rfl rfl rfl (Nat.le_of_ble_eq_true rfl) dX6_rule_30 ⟨Nat.le_of_ble_eq_true rfl, Nat.le_of_ble_eq_true rfl⟩) (fun r_27 u_25 H locs h_26 hP hD hS => ?_)
    have h_26 : r_27 = -2 := h_26
    have hP : va_P D gx_cl [((ad 5), .inl (k 2, 8, .inr (.inr (.inr (.inr fs))))), (a, .inr (1, [.ref el, .int 0, .int 0, .int (-1)]))] H := hP
    have hD : va_D A [((ad 5), .inl (k 2, 8, .inr (.inr (.inr (.inr fs))))), (a, .inr (1, [.ref el, .int 0, .int 0, .int (-1)]))] := hD
    have eh_26 := h_26
    subst eh_26
    exact gx_retI C (u := ()) gx_nil gx_noneD hS (by simp [gs_rule, c_1]) dX6_rule_33
set_option maxHeartbeats 4000000 in
set_option maxRecDepth 100000 in
theorem x_says (l : Launch) (D : va_G) (k : Nat → ClassId) (ad : Nat → Nat) (fs : Nat → Option Nat) (a : Nat) (el : Nat) (sv : Int32) (kv : Int32) (hf : gx_b sv 0 7 = true → fs sv.toNatClampNeg = some a) (sz : Nat) : Met l yX6_says (.code yX6_says cX6_says 4 (some .int) :: gx_T) ({ frames := 2, cells := 0, slots := 0, locals := 43 }) (gx_Pre D k [.ref (ad 0), .int sv, .int kv] ([((ad 0), .inr (4, [.ref (ad 1), .ref (ad 2), .ref (ad 3), .ref (ad 4), .ref (ad 5), .ref (ad 6), .ref (ad 7), .ref (ad 8), .ref (ad 9), .int 0])), ((ad 9), .inl (k 0, 5, .inl (fun _ => 0))), ((ad 5), .inl (k 2, 8, .inr (.inr (.inr (.inr fs))))), (a, .inr (1, [.ref el, .int 0, .int 0, .int (-1)]))]) sz) (gx_Qi D (fun (r : Int32) (u : Unit) => r = (gs_says sv kv)) (fun (u : Unit) => ([] : va_W)) (va_A ([((ad 0), .inr (4, [.ref (ad 1), .ref (ad 2), .ref (ad 3), .ref (ad 4), .ref (ad 5), .ref (ad 6), .ref (ad 7), .ref (ad 8), .ref (ad 9), .int 0])), ((ad 9), .inl (k 0, 5, .inl (fun _ => 0))), ((ad 5), .inl (k 2, 8, .inr (.inr (.inr (.inr fs))))), (a, .inr (1, [.ref el, .int 0, .int 0, .int (-1)]))]) sz)) 0 0 (va_A ([((ad 0), .inr (4, [.ref (ad 1), .ref (ad 2), .ref (ad 3), .ref (ad 4), .ref (ad 5), .ref (ad 6), .ref (ad 7), .ref (ad 8), .ref (ad 9), .int 0])), ((ad 9), .inl (k 0, 5, .inl (fun _ => 0))), ((ad 5), .inl (k 2, 8, .inr (.inr (.inr (.inr fs))))), (a, .inr (1, [.ref el, .int 0, .int 0, .int (-1)]))]) sz) := by
  refine gx_metE (Qc := fun A => gx_Qi D (fun (r : Int32) (u : Unit) => r = (gs_says sv kv)) (fun (u : Unit) => ([] : va_W)) A) (by decide) (Nat.le_of_ble_eq_true rfl) ?_
  intro p e s m below meth c A ls C hA hP hD hK hS hl
  obtain ⟨hx, hb, hr, hml, hown, hT, hlk, hin⟩ := id C
  have hown : s.vm.findClass RX6 = some m.cls := hown
  have hl : lv_has ls 4 [(0, .ref (ad 0)), (1, .int sv), (2, .int kv)] := hl
  refine lv_iload_n hx hb dX6_says_0 rfl (lv_at hl 1 rfl) ?_
  refine gx_pi hP hS (gx_runS (na := 1) (As := [.int sv]) (rest := []) C hl.1 hK (gx_subP (wc := ([] : va_W)) hP [] rfl) ((hD.sub (ws' := ([] : va_W)) [] (by decide) rfl).weaken (fun _ _ _ _ => trivial)) (k_isShelf l D k sv _) gS_RX6_53 (by decide +kernel) rfl rfl ⟨Nat.le_of_ble_eq_true rfl, Nat.le_of_ble_eq_true rfl⟩ rfl rfl (Nat.le_of_ble_eq_true rfl) dX6_says_1 ⟨Nat.le_of_ble_eq_true rfl, Nat.le_of_ble_eq_true rfl⟩) (fun r_2 H locs pc_1 hP hS => ?_)
  have oc_1 : r_2 = 1 ∧ gx_b sv 0 7 = true ∨ r_2 = 0 ∧ gx_b sv 0 7 = false := pc_1
  clear pc_1
  rcases oc_1 with ⟨rfl, c_1⟩ | ⟨rfl, c_1⟩
  · refine lv_if_eq (tgt := 17) hx hb dX6_says_4 (by decide) (fun c_3 => absurd c_3 (by decide)) (fun c_3 => ?_)
    refine lv_iload_n hx hb dX6_says_7 rfl (lv_at hl 2 rfl) ?_
    refine lv_iconst (v := 0) hx hb dX6_says_8 (by decide) ?_
    refine lv_bipush (v := 6) hx hb dX6_says_9 (by decide) ?_
    refine gx_pi hP hS (gx_runS (na := 3) (As := [.int kv, .int 0, .int 6]) (rest := []) C hl.1 hK (gx_subP (wc := ([] : va_W)) hP [] rfl) ((hD.sub (ws' := ([] : va_W)) [] (by decide) rfl).weaken (fun _ _ _ _ => trivial)) (k_isBetween l D k kv 0 6 _) gS_RX6_57 (by decide +kernel) rfl rfl ⟨Nat.le_of_ble_eq_true rfl, Nat.le_of_ble_eq_true rfl⟩ rfl rfl (Nat.le_of_ble_eq_true rfl) dX6_says_11 ⟨Nat.le_of_ble_eq_true rfl, Nat.le_of_ble_eq_true rfl⟩) (fun r_5 H locs pc_4 hP hS => ?_)
    have oc_4 : r_5 = 1 ∧ gx_b kv 0 6 = true ∨ r_5 = 0 ∧ gx_b kv 0 6 = false := pc_4
    clear pc_4
    rcases oc_4 with ⟨rfl, c_4⟩ | ⟨rfl, c_4⟩
    · refine lv_if_ne (tgt := 24) hx hb dX6_says_14 (by decide) (fun c_6 => ?_) (fun c_6 => absurd c_6 (by decide))
      refine lv_aload_n hx hb dX6_says_24 rfl (lv_at hl 0 rfl) ?_
      refine lv_iload_n hx hb dX6_says_25 rfl (lv_at hl 1 rfl) ?_
      refine gx_pi hP hS (gx_runV (na := 1) (As := [.int sv]) (rest := []) (ci := 4) C hl.1 hK (gx_subP (wc := ([((ad 0), .inr (4, [.ref (ad 1), .ref (ad 2), .ref (ad 3), .ref (ad 4), .ref (ad 5), .ref (ad 6), .ref (ad 7), .ref (ad 8), .ref (ad 9), .int 0])), ((ad 5), .inl (k 2, 8, .inr (.inr (.inr (.inr fs))))), (a, .inr (1, [.ref el, .int 0, .int 0, .int (-1)]))] : va_W)) hP [0, 2, 3] rfl) ((hD.sub (ws' := ([((ad 0), .inr (4, [.ref (ad 1), .ref (ad 2), .ref (ad 3), .ref (ad 4), .ref (ad 5), .ref (ad 6), .ref (ad 7), .ref (ad 8), .ref (ad 9), .int 0])), ((ad 5), .inl (k 2, 8, .inr (.inr (.inr (.inr fs))))), (a, .inr (1, [.ref el, .int 0, .int 0, .int (-1)]))] : va_W)) [0, 2, 3] (by decide) rfl).weaken (fun _ _ _ _ => trivial)) (k_ruleTrouble l D k ad fs a el sv c_1 (hf c_1) _) gV_RX6_110 (by decide +kernel) rfl rfl ⟨Nat.le_of_ble_eq_true rfl, Nat.le_of_ble_eq_true rfl⟩ rfl rfl rfl rfl (Nat.le_of_ble_eq_true rfl) dX6_says_26 ⟨Nat.le_of_ble_eq_true rfl, Nat.le_of_ble_eq_true rfl⟩) (fun r_8 H locs c_7 hP hS => ?_)
      have c_7 : r_8 = -4 := c_7
      subst c_7
      refine lv_istore_n (lv' := [(3, .int (-4)), (0, .ref (ad 0)), (1, .int sv), (2, .int kv)]) hx hb dX6_says_29 rfl hl (by decide) rfl (fun ls hl => ?_)
      refine lv_iload_n hx hb dX6_says_30 rfl (lv_at hl 0 rfl) ?_
      refine lv_if_ne (tgt := 53) hx hb dX6_says_31 (by decide) (fun c_9 => ?_) (fun c_9 => absurd c_9 (by decide))
      refine lv_iload_n hx hb dX6_says_53 rfl (lv_at hl 0 rfl) ?_
      refine lv_if_eq (tgt := 63) hx hb dX6_says_54 (by decide) (fun c_10 => absurd c_10 (by decide)) (fun c_10 => ?_)
      refine lv_aload_n hx hb dX6_says_57 rfl (lv_at hl 1 rfl) ?_
      refine lv_iload_n hx hb dX6_says_58 rfl (lv_at hl 0 rfl) ?_
      refine gx_ei (wc := ([((ad 0), .inr (4, [.ref (ad 1), .ref (ad 2), .ref (ad 3), .ref (ad 4), .ref (ad 5), .ref (ad 6), .ref (ad 7), .ref (ad 8), .ref (ad 9), .int 0])), ((ad 9), .inl (k 0, 5, .inl (fun _ => 0)))] : va_W)) (wr := [((ad 5), .inl (k 2, 8, .inr (.inr (.inr (.inr fs))))), (a, .inr (1, [.ref el, .int 0, .int 0, .int (-1)]))]) (isC := [0, 1]) (isR := [2, 3]) hP hD hS hA rfl rfl (by decide) (by decide) (gx_runV (na := 1) (As := [.int (-4)]) (rest := []) (ci := 4) C hl.1 hK (gx_subP (wc := ([((ad 0), .inr (4, [.ref (ad 1), .ref (ad 2), .ref (ad 3), .ref (ad 4), .ref (ad 5), .ref (ad 6), .ref (ad 7), .ref (ad 8), .ref (ad 9), .int 0])), ((ad 9), .inl (k 0, 5, .inl (fun _ => 0)))] : va_W)) hP [0, 1] rfl) ((hD.sub (ws' := ([((ad 0), .inr (4, [.ref (ad 1), .ref (ad 2), .ref (ad 3), .ref (ad 4), .ref (ad 5), .ref (ad 6), .ref (ad 7), .ref (ad 8), .ref (ad 9), .int 0])), ((ad 9), .inl (k 0, 5, .inl (fun _ => 0)))] : va_W)) [0, 1] (by decide) rfl).weaken (fun _ _ _ _ => trivial)) (k_refuse4 l D k ad _) gV_RX6_61 (by decide +kernel) rfl rfl ⟨Nat.le_of_ble_eq_true rfl, Nat.le_of_ble_eq_true rfl⟩ rfl rfl rfl rfl (Nat.le_of_ble_eq_true rfl) dX6_says_59 ⟨Nat.le_of_ble_eq_true rfl, Nat.le_of_ble_eq_true rfl⟩) (fun r_13 u_11 H locs h_12 hP hD hS => ?_)
      have h_12 : r_13 = -4 := h_12
      have hP : va_P D gx_cl [((ad 5), .inl (k 2, 8, .inr (.inr (.inr (.inr fs))))), (a, .inr (1, [.ref el, .int 0, .int 0, .int (-1)]))] H := hP
      have hD : va_D A [((ad 5), .inl (k 2, 8, .inr (.inr (.inr (.inr fs))))), (a, .inr (1, [.ref el, .int 0, .int 0, .int (-1)]))] := hD
      have eh_12 := h_12
      subst eh_12
      exact gx_retI C (u := ()) gx_nil gx_noneD hS (by simp [gs_says, c_1, c_4]) dX6_says_62
    · refine lv_if_ne (tgt := 24) hx hb dX6_says_14 (by decide) (fun c_15 => absurd (by decide) c_15) (fun c_15 => ?_)
      refine lv_aload_n hx hb dX6_says_17 rfl (lv_at hl 0 rfl) ?_
      refine lv_bipush (v := (-2)) hx hb dX6_says_18 (by decide) ?_
      refine gx_ei (wc := ([((ad 0), .inr (4, [.ref (ad 1), .ref (ad 2), .ref (ad 3), .ref (ad 4), .ref (ad 5), .ref (ad 6), .ref (ad 7), .ref (ad 8), .ref (ad 9), .int 0])), ((ad 9), .inl (k 0, 5, .inl (fun _ => 0)))] : va_W)) (wr := [((ad 5), .inl (k 2, 8, .inr (.inr (.inr (.inr fs))))), (a, .inr (1, [.ref el, .int 0, .int 0, .int (-1)]))]) (isC := [0, 1]) (isR := [2, 3]) hP hD hS hA rfl rfl (by decide) (by decide) (gx_runV (na := 1) (As := [.int (-2)]) (rest := []) (ci := 4) C hl.1 hK (gx_subP (wc := ([((ad 0), .inr (4, [.ref (ad 1), .ref (ad 2), .ref (ad 3), .ref (ad 4), .ref (ad 5), .ref (ad 6), .ref (ad 7), .ref (ad 8), .ref (ad 9), .int 0])), ((ad 9), .inl (k 0, 5, .inl (fun _ => 0)))] : va_W)) hP [0, 1] rfl) ((hD.sub (ws' := ([((ad 0), .inr (4, [.ref (ad 1), .ref (ad 2), .ref (ad 3), .ref (ad 4), .ref (ad 5), .ref (ad 6), .ref (ad 7), .ref (ad 8), .ref (ad 9), .int 0])), ((ad 9), .inl (k 0, 5, .inl (fun _ => 0)))] : va_W)) [0, 1] (by decide) rfl).weaken (fun _ _ _ _ => trivial)) (k_refuse2 l D k ad _) gV_RX6_61 (by decide +kernel) rfl rfl ⟨Nat.le_of_ble_eq_true rfl, Nat.le_of_ble_eq_true rfl⟩ rfl rfl rfl rfl (Nat.le_of_ble_eq_true rfl) dX6_says_20 ⟨Nat.le_of_ble_eq_true rfl, Nat.le_of_ble_eq_true rfl⟩) (fun r_18 u_16 H locs h_17 hP hD hS => ?_)
      have h_17 : r_18 = -2 := h_17
      have hP : va_P D gx_cl [((ad 5), .inl (k 2, 8, .inr (.inr (.inr (.inr fs))))), (a, .inr (1, [.ref el, .int 0, .int 0, .int (-1)]))] H := hP
      have hD : va_D A [((ad 5), .inl (k 2, 8, .inr (.inr (.inr (.inr fs))))), (a, .inr (1, [.ref el, .int 0, .int 0, .int (-1)]))] := hD
      have eh_17 := h_17
      subst eh_17
      exact gx_retI C (u := ()) gx_nil gx_noneD hS (by simp [gs_says, c_1, c_4]) dX6_says_23
  · refine lv_if_eq (tgt := 17) hx hb dX6_says_4 (by decide) (fun c_20 => ?_) (fun c_20 => absurd (by decide) c_20)
    refine lv_aload_n hx hb dX6_says_17 rfl (lv_at hl 0 rfl) ?_
    refine lv_bipush (v := (-2)) hx hb dX6_says_18 (by decide) ?_
    refine gx_ei (wc := ([((ad 0), .inr (4, [.ref (ad 1), .ref (ad 2), .ref (ad 3), .ref (ad 4), .ref (ad 5), .ref (ad 6), .ref (ad 7), .ref (ad 8), .ref (ad 9), .int 0])), ((ad 9), .inl (k 0, 5, .inl (fun _ => 0)))] : va_W)) (wr := [((ad 5), .inl (k 2, 8, .inr (.inr (.inr (.inr fs))))), (a, .inr (1, [.ref el, .int 0, .int 0, .int (-1)]))]) (isC := [0, 1]) (isR := [2, 3]) hP hD hS hA rfl rfl (by decide) (by decide) (gx_runV (na := 1) (As := [.int (-2)]) (rest := []) (ci := 4) C hl.1 hK (gx_subP (wc := ([((ad 0), .inr (4, [.ref (ad 1), .ref (ad 2), .ref (ad 3), .ref (ad 4), .ref (ad 5), .ref (ad 6), .ref (ad 7), .ref (ad 8), .ref (ad 9), .int 0])), ((ad 9), .inl (k 0, 5, .inl (fun _ => 0)))] : va_W)) hP [0, 1] rfl) ((hD.sub (ws' := ([((ad 0), .inr (4, [.ref (ad 1), .ref (ad 2), .ref (ad 3), .ref (ad 4), .ref (ad 5), .ref (ad 6), .ref (ad 7), .ref (ad 8), .ref (ad 9), .int 0])), ((ad 9), .inl (k 0, 5, .inl (fun _ => 0)))] : va_W)) [0, 1] (by decide) rfl).weaken (fun _ _ _ _ => trivial)) (k_refuse2 l D k ad _) gV_RX6_61 (by decide +kernel) rfl rfl ⟨Nat.le_of_ble_eq_true rfl, Nat.le_of_ble_eq_true rfl⟩ rfl rfl rfl rfl (Nat.le_of_ble_eq_true rfl) dX6_says_20 ⟨Nat.le_of_ble_eq_true rfl, Nat.le_of_ble_eq_true rfl⟩) (fun r_23 u_21 H locs h_22 hP hD hS => ?_)
    have h_22 : r_23 = -2 := h_22
    have hP : va_P D gx_cl [((ad 5), .inl (k 2, 8, .inr (.inr (.inr (.inr fs))))), (a, .inr (1, [.ref el, .int 0, .int 0, .int (-1)]))] H := hP
    have hD : va_D A [((ad 5), .inl (k 2, 8, .inr (.inr (.inr (.inr fs))))), (a, .inr (1, [.ref el, .int 0, .int 0, .int (-1)]))] := hD
    have eh_22 := h_22
    subst eh_22
    exact gx_retI C (u := ()) gx_nil gx_noneD hS (by simp [gs_says, c_1]) dX6_says_23
set_option maxHeartbeats 4000000 in
set_option maxRecDepth 100000 in
theorem x_road (l : Launch) (D : va_G) (k : Nat → ClassId) (ad : Nat → Nat) (fv : Int32) (tv : Int32) (mv : Int32) (zv : Int32) (sz : Nat) : Met l yX6_road (.code yX6_road cX6_road 5 (some .int) :: gx_T) ({ frames := 2, cells := 0, slots := 0, locals := 43 }) (gx_Pre D k [.ref (ad 0), .int fv, .int tv, .int mv, .int zv] ([((ad 0), .inr (4, [.ref (ad 1), .ref (ad 2), .ref (ad 3), .ref (ad 4), .ref (ad 5), .ref (ad 6), .ref (ad 7), .ref (ad 8), .ref (ad 9), .int 0])), ((ad 1), .inr (0, [.ref (ad 10), .ref (ad 11), .ref (ad 12), .ref (ad 13), .ref (ad 14), .ref (ad 15), .ref (ad 16), .ref (ad 17), .ref (ad 18), .int 0, .int 0, .int 0, .int 0, .int 1, .int 0, .int 0, .int 0])), ((ad 9), .inl (k 0, 5, .inl (fun _ => 0))), ((ad 10), .inl (k 0, 16, .inl (fun _ => 0))), ((ad 11), .inl (k 0, 16, .inl (fun _ => 0))), ((ad 12), .inl (k 0, 16, .inl (fun _ => 0))), ((ad 13), .inl (k 0, 16, .inl (fun _ => 0)))]) sz) (gx_Qi D (fun (r : Int32) (u : Unit) => r = (gs_road fv tv mv)) (fun (u : Unit) => ([] : va_W)) (va_A ([((ad 0), .inr (4, [.ref (ad 1), .ref (ad 2), .ref (ad 3), .ref (ad 4), .ref (ad 5), .ref (ad 6), .ref (ad 7), .ref (ad 8), .ref (ad 9), .int 0])), ((ad 1), .inr (0, [.ref (ad 10), .ref (ad 11), .ref (ad 12), .ref (ad 13), .ref (ad 14), .ref (ad 15), .ref (ad 16), .ref (ad 17), .ref (ad 18), .int 0, .int 0, .int 0, .int 0, .int 1, .int 0, .int 0, .int 0])), ((ad 9), .inl (k 0, 5, .inl (fun _ => 0))), ((ad 10), .inl (k 0, 16, .inl (fun _ => 0))), ((ad 11), .inl (k 0, 16, .inl (fun _ => 0))), ((ad 12), .inl (k 0, 16, .inl (fun _ => 0))), ((ad 13), .inl (k 0, 16, .inl (fun _ => 0)))]) sz)) 0 0 (va_A ([((ad 0), .inr (4, [.ref (ad 1), .ref (ad 2), .ref (ad 3), .ref (ad 4), .ref (ad 5), .ref (ad 6), .ref (ad 7), .ref (ad 8), .ref (ad 9), .int 0])), ((ad 1), .inr (0, [.ref (ad 10), .ref (ad 11), .ref (ad 12), .ref (ad 13), .ref (ad 14), .ref (ad 15), .ref (ad 16), .ref (ad 17), .ref (ad 18), .int 0, .int 0, .int 0, .int 0, .int 1, .int 0, .int 0, .int 0])), ((ad 9), .inl (k 0, 5, .inl (fun _ => 0))), ((ad 10), .inl (k 0, 16, .inl (fun _ => 0))), ((ad 11), .inl (k 0, 16, .inl (fun _ => 0))), ((ad 12), .inl (k 0, 16, .inl (fun _ => 0))), ((ad 13), .inl (k 0, 16, .inl (fun _ => 0)))]) sz) := by
  refine gx_metE (Qc := fun A => gx_Qi D (fun (r : Int32) (u : Unit) => r = (gs_road fv tv mv)) (fun (u : Unit) => ([] : va_W)) A) (by decide) (Nat.le_of_ble_eq_true rfl) ?_
  intro p e s m below meth c A ls C hA hP hD hK hS hl
  obtain ⟨hx, hb, hr, hml, hown, hT, hlk, hin⟩ := id C
  have hown : s.vm.findClass RX6 = some m.cls := hown
  have hl : lv_has ls 5 [(0, .ref (ad 0)), (1, .int fv), (2, .int tv), (3, .int mv), (4, .int zv)] := hl
  refine lv_iload_n hx hb dX6_road_0 rfl (lv_at hl 1 rfl) ?_
  refine gx_pi hP hS (gx_runS (na := 1) (As := [.int fv]) (rest := []) C hl.1 hK (gx_subP (wc := ([] : va_W)) hP [] rfl) ((hD.sub (ws' := ([] : va_W)) [] (by decide) rfl).weaken (fun _ _ _ _ => trivial)) (k_isPlace l D k fv _) gS_RX6_130 (by decide +kernel) rfl rfl ⟨Nat.le_of_ble_eq_true rfl, Nat.le_of_ble_eq_true rfl⟩ rfl rfl (Nat.le_of_ble_eq_true rfl) dX6_road_1 ⟨Nat.le_of_ble_eq_true rfl, Nat.le_of_ble_eq_true rfl⟩) (fun r_2 H locs pc_1 hP hS => ?_)
  have oc_1 : r_2 = 1 ∧ gx_b fv 0 7 = true ∨ r_2 = 0 ∧ gx_b fv 0 7 = false := pc_1
  clear pc_1
  rcases oc_1 with ⟨rfl, c_1⟩ | ⟨rfl, c_1⟩
  · refine lv_if_eq (tgt := 29) hx hb dX6_road_4 (by decide) (fun c_3 => absurd c_3 (by decide)) (fun c_3 => ?_)
    refine lv_iload_n hx hb dX6_road_7 rfl (lv_at hl 2 rfl) ?_
    refine gx_pi hP hS (gx_runS (na := 1) (As := [.int tv]) (rest := []) C hl.1 hK (gx_subP (wc := ([] : va_W)) hP [] rfl) ((hD.sub (ws' := ([] : va_W)) [] (by decide) rfl).weaken (fun _ _ _ _ => trivial)) (k_isPlace l D k tv _) gS_RX6_130 (by decide +kernel) rfl rfl ⟨Nat.le_of_ble_eq_true rfl, Nat.le_of_ble_eq_true rfl⟩ rfl rfl (Nat.le_of_ble_eq_true rfl) dX6_road_8 ⟨Nat.le_of_ble_eq_true rfl, Nat.le_of_ble_eq_true rfl⟩) (fun r_5 H locs pc_4 hP hS => ?_)
    have oc_4 : r_5 = 1 ∧ gx_b tv 0 7 = true ∨ r_5 = 0 ∧ gx_b tv 0 7 = false := pc_4
    clear pc_4
    rcases oc_4 with ⟨rfl, c_4⟩ | ⟨rfl, c_4⟩
    · refine lv_if_eq (tgt := 29) hx hb dX6_road_11 (by decide) (fun c_6 => absurd c_6 (by decide)) (fun c_6 => ?_)
      refine lv_iload_n hx hb dX6_road_14 rfl (lv_at hl 1 rfl) ?_
      refine lv_iload_n hx hb dX6_road_15 rfl (lv_at hl 2 rfl) ?_
      refine lv_icmp_eq (tgt := 29) hx hb dX6_road_16 (by decide) (fun c_7 => ?_) (fun c_7 => ?_)
      · refine lv_aload_n hx hb dX6_road_29 rfl (lv_at hl 0 rfl) ?_
        refine lv_bipush (v := (-2)) hx hb dX6_road_30 (by decide) ?_
        refine gx_ei (wc := ([((ad 0), .inr (4, [.ref (ad 1), .ref (ad 2), .ref (ad 3), .ref (ad 4), .ref (ad 5), .ref (ad 6), .ref (ad 7), .ref (ad 8), .ref (ad 9), .int 0])), ((ad 9), .inl (k 0, 5, .inl (fun _ => 0)))] : va_W)) (wr := [((ad 1), .inr (0, [.ref (ad 10), .ref (ad 11), .ref (ad 12), .ref (ad 13), .ref (ad 14), .ref (ad 15), .ref (ad 16), .ref (ad 17), .ref (ad 18), .int 0, .int 0, .int 0, .int 0, .int 1, .int 0, .int 0, .int 0])), ((ad 10), .inl (k 0, 16, .inl (fun _ => 0))), ((ad 11), .inl (k 0, 16, .inl (fun _ => 0))), ((ad 12), .inl (k 0, 16, .inl (fun _ => 0))), ((ad 13), .inl (k 0, 16, .inl (fun _ => 0)))]) (isC := [0, 2]) (isR := [1, 3, 4, 5, 6]) hP hD hS hA rfl rfl (by decide) (by decide) (gx_runV (na := 1) (As := [.int (-2)]) (rest := []) (ci := 4) C hl.1 hK (gx_subP (wc := ([((ad 0), .inr (4, [.ref (ad 1), .ref (ad 2), .ref (ad 3), .ref (ad 4), .ref (ad 5), .ref (ad 6), .ref (ad 7), .ref (ad 8), .ref (ad 9), .int 0])), ((ad 9), .inl (k 0, 5, .inl (fun _ => 0)))] : va_W)) hP [0, 2] rfl) ((hD.sub (ws' := ([((ad 0), .inr (4, [.ref (ad 1), .ref (ad 2), .ref (ad 3), .ref (ad 4), .ref (ad 5), .ref (ad 6), .ref (ad 7), .ref (ad 8), .ref (ad 9), .int 0])), ((ad 9), .inl (k 0, 5, .inl (fun _ => 0)))] : va_W)) [0, 2] (by decide) rfl).weaken (fun _ _ _ _ => trivial)) (k_refuse2 l D k ad _) gV_RX6_61 (by decide +kernel) rfl rfl ⟨Nat.le_of_ble_eq_true rfl, Nat.le_of_ble_eq_true rfl⟩ rfl rfl rfl rfl (Nat.le_of_ble_eq_true rfl) dX6_road_32 ⟨Nat.le_of_ble_eq_true rfl, Nat.le_of_ble_eq_true rfl⟩) (fun r_10 u_8 H locs h_9 hP hD hS => ?_)
        have h_9 : r_10 = -2 := h_9
        have hP : va_P D gx_cl [((ad 1), .inr (0, [.ref (ad 10), .ref (ad 11), .ref (ad 12), .ref (ad 13), .ref (ad 14), .ref (ad 15), .ref (ad 16), .ref (ad 17), .ref (ad 18), .int 0, .int 0, .int 0, .int 0, .int 1, .int 0, .int 0, .int 0])), ((ad 10), .inl (k 0, 16, .inl (fun _ => 0))), ((ad 11), .inl (k 0, 16, .inl (fun _ => 0))), ((ad 12), .inl (k 0, 16, .inl (fun _ => 0))), ((ad 13), .inl (k 0, 16, .inl (fun _ => 0)))] H := hP
        have hD : va_D A [((ad 1), .inr (0, [.ref (ad 10), .ref (ad 11), .ref (ad 12), .ref (ad 13), .ref (ad 14), .ref (ad 15), .ref (ad 16), .ref (ad 17), .ref (ad 18), .int 0, .int 0, .int 0, .int 0, .int 1, .int 0, .int 0, .int 0])), ((ad 10), .inl (k 0, 16, .inl (fun _ => 0))), ((ad 11), .inl (k 0, 16, .inl (fun _ => 0))), ((ad 12), .inl (k 0, 16, .inl (fun _ => 0))), ((ad 13), .inl (k 0, 16, .inl (fun _ => 0)))] := hD
        have eh_9 := h_9
        subst eh_9
        exact gx_retI C (u := ()) gx_nil gx_noneD hS (by simp [gs_road, c_1, c_4, c_7]) dX6_road_35
      · refine lv_iload_n hx hb dX6_road_19 rfl (lv_at hl 3 rfl) ?_
        refine lv_iconst (v := 1) hx hb dX6_road_20 (by decide) ?_
        refine lv_bipush (v := 60) hx hb dX6_road_21 (by decide) ?_
        refine gx_pi hP hS (gx_runS (na := 3) (As := [.int mv, .int 1, .int 60]) (rest := []) C hl.1 hK (gx_subP (wc := ([] : va_W)) hP [] rfl) ((hD.sub (ws' := ([] : va_W)) [] (by decide) rfl).weaken (fun _ _ _ _ => trivial)) (k_isBetween l D k mv 1 60 _) gS_RX6_57 (by decide +kernel) rfl rfl ⟨Nat.le_of_ble_eq_true rfl, Nat.le_of_ble_eq_true rfl⟩ rfl rfl (Nat.le_of_ble_eq_true rfl) dX6_road_23 ⟨Nat.le_of_ble_eq_true rfl, Nat.le_of_ble_eq_true rfl⟩) (fun r_13 H locs pc_12 hP hS => ?_)
        have oc_12 : r_13 = 1 ∧ gx_b mv 1 60 = true ∨ r_13 = 0 ∧ gx_b mv 1 60 = false := pc_12
        clear pc_12
        rcases oc_12 with ⟨rfl, c_12⟩ | ⟨rfl, c_12⟩
        · refine lv_if_ne (tgt := 36) hx hb dX6_road_26 (by decide) (fun c_14 => ?_) (fun c_14 => absurd c_14 (by decide))
          refine lv_aload_n hx hb dX6_road_36 rfl (lv_at hl 0 rfl) ?_
          refine va_get (D := D) (ci := 4) (v := .ref (ad 1)) (C := RX6) (T := TX6) (N := 10) hx hb hT iw_TX6 hown hK.1 hP 0 rfl rfl 0 (by decide) (hT _ wd_271) (fun _ h9 => h9) rfl dX6_road_37 ?_
          refine va_get (D := D) (ci := 0) (v := .int 0) (C := RX1) (T := TX1) (N := 17) hx hb hT iw_TX1 hown hK.1 hP 1 rfl rfl 9 (by decide) (hT _ wd_135) (fun _ h9 => h9) rfl dX6_road_40 ?_
          refine lv_bipush (v := 16) hx hb dX6_road_43 (by decide) ?_
          refine lv_icmp_ne (tgt := 57) hx hb dX6_road_45 (by decide) (fun c_15 => ?_) (fun c_15 => absurd c_15 (by decide))
          refine lv_aload_n hx hb dX6_road_57 rfl (lv_at hl 0 rfl) ?_
          refine va_get (D := D) (ci := 4) (v := .ref (ad 1)) (C := RX6) (T := TX6) (N := 10) hx hb hT iw_TX6 hown hK.1 hP 0 rfl rfl 0 (by decide) (hT _ wd_271) (fun _ h9 => h9) rfl dX6_road_58 ?_
          refine lv_iload_n hx hb dX6_road_61 rfl (lv_at hl 1 rfl) ?_
          refine lv_iload_n hx hb dX6_road_62 rfl (lv_at hl 2 rfl) ?_
          refine lv_iload_n hx hb dX6_road_63 rfl (lv_at hl 3 rfl) ?_
          refine lv_iload hx hb dX6_road_64 (lv_at hl 4 rfl) ?_
          refine gx_ei (wc := ([((ad 1), .inr (0, [.ref (ad 10), .ref (ad 11), .ref (ad 12), .ref (ad 13), .ref (ad 14), .ref (ad 15), .ref (ad 16), .ref (ad 17), .ref (ad 18), .int 0, .int 0, .int 0, .int 0, .int 1, .int 0, .int 0, .int 0])), ((ad 10), .inl (k 0, 16, .inl (fun _ => 0))), ((ad 11), .inl (k 0, 16, .inl (fun _ => 0))), ((ad 12), .inl (k 0, 16, .inl (fun _ => 0))), ((ad 13), .inl (k 0, 16, .inl (fun _ => 0)))] : va_W)) (wr := [((ad 0), .inr (4, [.ref (ad 1), .ref (ad 2), .ref (ad 3), .ref (ad 4), .ref (ad 5), .ref (ad 6), .ref (ad 7), .ref (ad 8), .ref (ad 9), .int 0])), ((ad 9), .inl (k 0, 5, .inl (fun _ => 0)))]) (isC := [1, 3, 4, 5, 6]) (isR := [0, 2]) hP hD hS hA rfl rfl (by decide) (by decide) (gx_runV (na := 4) (As := [.int fv, .int tv, .int mv, .int zv]) (rest := []) (ci := 0) C hl.1 hK (gx_subP (wc := ([((ad 1), .inr (0, [.ref (ad 10), .ref (ad 11), .ref (ad 12), .ref (ad 13), .ref (ad 14), .ref (ad 15), .ref (ad 16), .ref (ad 17), .ref (ad 18), .int 0, .int 0, .int 0, .int 0, .int 1, .int 0, .int 0, .int 0])), ((ad 10), .inl (k 0, 16, .inl (fun _ => 0))), ((ad 11), .inl (k 0, 16, .inl (fun _ => 0))), ((ad 12), .inl (k 0, 16, .inl (fun _ => 0))), ((ad 13), .inl (k 0, 16, .inl (fun _ => 0)))] : va_W)) hP [1, 3, 4, 5, 6] rfl) ((hD.sub (ws' := ([((ad 1), .inr (0, [.ref (ad 10), .ref (ad 11), .ref (ad 12), .ref (ad 13), .ref (ad 14), .ref (ad 15), .ref (ad 16), .ref (ad 17), .ref (ad 18), .int 0, .int 0, .int 0, .int 0, .int 1, .int 0, .int 0, .int 0])), ((ad 10), .inl (k 0, 16, .inl (fun _ => 0))), ((ad 11), .inl (k 0, 16, .inl (fun _ => 0))), ((ad 12), .inl (k 0, 16, .inl (fun _ => 0))), ((ad 13), .inl (k 0, 16, .inl (fun _ => 0)))] : va_W)) [1, 3, 4, 5, 6] (by decide) rfl).weaken (fun _ _ _ _ => trivial)) (k_build l D k (ad 1) (ad 10) (ad 11) (ad 12) (ad 13) (ad 14) (ad 15) (ad 16) (ad 17) (ad 18) fv tv mv zv _) gV_RX6_136 (by decide +kernel) rfl rfl ⟨Nat.le_of_ble_eq_true rfl, Nat.le_of_ble_eq_true rfl⟩ rfl rfl rfl rfl (Nat.le_of_ble_eq_true rfl) dX6_road_66 ⟨Nat.le_of_ble_eq_true rfl, Nat.le_of_ble_eq_true rfl⟩) (fun r_18 u_16 H locs h_17 hP hD hS => ?_)
          have h_17 : r_18 = 0 := h_17
          have hP : va_P D gx_cl [((ad 0), .inr (4, [.ref (ad 1), .ref (ad 2), .ref (ad 3), .ref (ad 4), .ref (ad 5), .ref (ad 6), .ref (ad 7), .ref (ad 8), .ref (ad 9), .int 0])), ((ad 9), .inl (k 0, 5, .inl (fun _ => 0)))] H := hP
          have hD : va_D A [((ad 0), .inr (4, [.ref (ad 1), .ref (ad 2), .ref (ad 3), .ref (ad 4), .ref (ad 5), .ref (ad 6), .ref (ad 7), .ref (ad 8), .ref (ad 9), .int 0])), ((ad 9), .inl (k 0, 5, .inl (fun _ => 0)))] := hD
          have eh_17 := h_17
          subst eh_17
          exact gx_retI C (u := ()) gx_nil gx_noneD hS (by simp [gs_road, c_1, c_4, c_12, c_7]) dX6_road_69
        · refine lv_if_ne (tgt := 36) hx hb dX6_road_26 (by decide) (fun c_20 => absurd (by decide) c_20) (fun c_20 => ?_)
          refine lv_aload_n hx hb dX6_road_29 rfl (lv_at hl 0 rfl) ?_
          refine lv_bipush (v := (-2)) hx hb dX6_road_30 (by decide) ?_
          refine gx_ei (wc := ([((ad 0), .inr (4, [.ref (ad 1), .ref (ad 2), .ref (ad 3), .ref (ad 4), .ref (ad 5), .ref (ad 6), .ref (ad 7), .ref (ad 8), .ref (ad 9), .int 0])), ((ad 9), .inl (k 0, 5, .inl (fun _ => 0)))] : va_W)) (wr := [((ad 1), .inr (0, [.ref (ad 10), .ref (ad 11), .ref (ad 12), .ref (ad 13), .ref (ad 14), .ref (ad 15), .ref (ad 16), .ref (ad 17), .ref (ad 18), .int 0, .int 0, .int 0, .int 0, .int 1, .int 0, .int 0, .int 0])), ((ad 10), .inl (k 0, 16, .inl (fun _ => 0))), ((ad 11), .inl (k 0, 16, .inl (fun _ => 0))), ((ad 12), .inl (k 0, 16, .inl (fun _ => 0))), ((ad 13), .inl (k 0, 16, .inl (fun _ => 0)))]) (isC := [0, 2]) (isR := [1, 3, 4, 5, 6]) hP hD hS hA rfl rfl (by decide) (by decide) (gx_runV (na := 1) (As := [.int (-2)]) (rest := []) (ci := 4) C hl.1 hK (gx_subP (wc := ([((ad 0), .inr (4, [.ref (ad 1), .ref (ad 2), .ref (ad 3), .ref (ad 4), .ref (ad 5), .ref (ad 6), .ref (ad 7), .ref (ad 8), .ref (ad 9), .int 0])), ((ad 9), .inl (k 0, 5, .inl (fun _ => 0)))] : va_W)) hP [0, 2] rfl) ((hD.sub (ws' := ([((ad 0), .inr (4, [.ref (ad 1), .ref (ad 2), .ref (ad 3), .ref (ad 4), .ref (ad 5), .ref (ad 6), .ref (ad 7), .ref (ad 8), .ref (ad 9), .int 0])), ((ad 9), .inl (k 0, 5, .inl (fun _ => 0)))] : va_W)) [0, 2] (by decide) rfl).weaken (fun _ _ _ _ => trivial)) (k_refuse2 l D k ad _) gV_RX6_61 (by decide +kernel) rfl rfl ⟨Nat.le_of_ble_eq_true rfl, Nat.le_of_ble_eq_true rfl⟩ rfl rfl rfl rfl (Nat.le_of_ble_eq_true rfl) dX6_road_32 ⟨Nat.le_of_ble_eq_true rfl, Nat.le_of_ble_eq_true rfl⟩) (fun r_23 u_21 H locs h_22 hP hD hS => ?_)
          have h_22 : r_23 = -2 := h_22
          have hP : va_P D gx_cl [((ad 1), .inr (0, [.ref (ad 10), .ref (ad 11), .ref (ad 12), .ref (ad 13), .ref (ad 14), .ref (ad 15), .ref (ad 16), .ref (ad 17), .ref (ad 18), .int 0, .int 0, .int 0, .int 0, .int 1, .int 0, .int 0, .int 0])), ((ad 10), .inl (k 0, 16, .inl (fun _ => 0))), ((ad 11), .inl (k 0, 16, .inl (fun _ => 0))), ((ad 12), .inl (k 0, 16, .inl (fun _ => 0))), ((ad 13), .inl (k 0, 16, .inl (fun _ => 0)))] H := hP
          have hD : va_D A [((ad 1), .inr (0, [.ref (ad 10), .ref (ad 11), .ref (ad 12), .ref (ad 13), .ref (ad 14), .ref (ad 15), .ref (ad 16), .ref (ad 17), .ref (ad 18), .int 0, .int 0, .int 0, .int 0, .int 1, .int 0, .int 0, .int 0])), ((ad 10), .inl (k 0, 16, .inl (fun _ => 0))), ((ad 11), .inl (k 0, 16, .inl (fun _ => 0))), ((ad 12), .inl (k 0, 16, .inl (fun _ => 0))), ((ad 13), .inl (k 0, 16, .inl (fun _ => 0)))] := hD
          have eh_22 := h_22
          subst eh_22
          exact gx_retI C (u := ()) gx_nil gx_noneD hS (by simp [gs_road, c_1, c_4, c_12, c_7]) dX6_road_35
    · refine lv_if_eq (tgt := 29) hx hb dX6_road_11 (by decide) (fun c_25 => ?_) (fun c_25 => absurd (by decide) c_25)
      refine lv_aload_n hx hb dX6_road_29 rfl (lv_at hl 0 rfl) ?_
      refine lv_bipush (v := (-2)) hx hb dX6_road_30 (by decide) ?_
      refine gx_ei (wc := ([((ad 0), .inr (4, [.ref (ad 1), .ref (ad 2), .ref (ad 3), .ref (ad 4), .ref (ad 5), .ref (ad 6), .ref (ad 7), .ref (ad 8), .ref (ad 9), .int 0])), ((ad 9), .inl (k 0, 5, .inl (fun _ => 0)))] : va_W)) (wr := [((ad 1), .inr (0, [.ref (ad 10), .ref (ad 11), .ref (ad 12), .ref (ad 13), .ref (ad 14), .ref (ad 15), .ref (ad 16), .ref (ad 17), .ref (ad 18), .int 0, .int 0, .int 0, .int 0, .int 1, .int 0, .int 0, .int 0])), ((ad 10), .inl (k 0, 16, .inl (fun _ => 0))), ((ad 11), .inl (k 0, 16, .inl (fun _ => 0))), ((ad 12), .inl (k 0, 16, .inl (fun _ => 0))), ((ad 13), .inl (k 0, 16, .inl (fun _ => 0)))]) (isC := [0, 2]) (isR := [1, 3, 4, 5, 6]) hP hD hS hA rfl rfl (by decide) (by decide) (gx_runV (na := 1) (As := [.int (-2)]) (rest := []) (ci := 4) C hl.1 hK (gx_subP (wc := ([((ad 0), .inr (4, [.ref (ad 1), .ref (ad 2), .ref (ad 3), .ref (ad 4), .ref (ad 5), .ref (ad 6), .ref (ad 7), .ref (ad 8), .ref (ad 9), .int 0])), ((ad 9), .inl (k 0, 5, .inl (fun _ => 0)))] : va_W)) hP [0, 2] rfl) ((hD.sub (ws' := ([((ad 0), .inr (4, [.ref (ad 1), .ref (ad 2), .ref (ad 3), .ref (ad 4), .ref (ad 5), .ref (ad 6), .ref (ad 7), .ref (ad 8), .ref (ad 9), .int 0])), ((ad 9), .inl (k 0, 5, .inl (fun _ => 0)))] : va_W)) [0, 2] (by decide) rfl).weaken (fun _ _ _ _ => trivial)) (k_refuse2 l D k ad _) gV_RX6_61 (by decide +kernel) rfl rfl ⟨Nat.le_of_ble_eq_true rfl, Nat.le_of_ble_eq_true rfl⟩ rfl rfl rfl rfl (Nat.le_of_ble_eq_true rfl) dX6_road_32 ⟨Nat.le_of_ble_eq_true rfl, Nat.le_of_ble_eq_true rfl⟩) (fun r_28 u_26 H locs h_27 hP hD hS => ?_)
      have h_27 : r_28 = -2 := h_27
      have hP : va_P D gx_cl [((ad 1), .inr (0, [.ref (ad 10), .ref (ad 11), .ref (ad 12), .ref (ad 13), .ref (ad 14), .ref (ad 15), .ref (ad 16), .ref (ad 17), .ref (ad 18), .int 0, .int 0, .int 0, .int 0, .int 1, .int 0, .int 0, .int 0])), ((ad 10), .inl (k 0, 16, .inl (fun _ => 0))), ((ad 11), .inl (k 0, 16, .inl (fun _ => 0))), ((ad 12), .inl (k 0, 16, .inl (fun _ => 0))), ((ad 13), .inl (k 0, 16, .inl (fun _ => 0)))] H := hP
      have hD : va_D A [((ad 1), .inr (0, [.ref (ad 10), .ref (ad 11), .ref (ad 12), .ref (ad 13), .ref (ad 14), .ref (ad 15), .ref (ad 16), .ref (ad 17), .ref (ad 18), .int 0, .int 0, .int 0, .int 0, .int 1, .int 0, .int 0, .int 0])), ((ad 10), .inl (k 0, 16, .inl (fun _ => 0))), ((ad 11), .inl (k 0, 16, .inl (fun _ => 0))), ((ad 12), .inl (k 0, 16, .inl (fun _ => 0))), ((ad 13), .inl (k 0, 16, .inl (fun _ => 0)))] := hD
      have eh_27 := h_27
      subst eh_27
      exact gx_retI C (u := ()) gx_nil gx_noneD hS (by simp [gs_road, c_1, c_4]) dX6_road_35
  · refine lv_if_eq (tgt := 29) hx hb dX6_road_4 (by decide) (fun c_30 => ?_) (fun c_30 => absurd (by decide) c_30)
    refine lv_aload_n hx hb dX6_road_29 rfl (lv_at hl 0 rfl) ?_
    refine lv_bipush (v := (-2)) hx hb dX6_road_30 (by decide) ?_
    refine gx_ei (wc := ([((ad 0), .inr (4, [.ref (ad 1), .ref (ad 2), .ref (ad 3), .ref (ad 4), .ref (ad 5), .ref (ad 6), .ref (ad 7), .ref (ad 8), .ref (ad 9), .int 0])), ((ad 9), .inl (k 0, 5, .inl (fun _ => 0)))] : va_W)) (wr := [((ad 1), .inr (0, [.ref (ad 10), .ref (ad 11), .ref (ad 12), .ref (ad 13), .ref (ad 14), .ref (ad 15), .ref (ad 16), .ref (ad 17), .ref (ad 18), .int 0, .int 0, .int 0, .int 0, .int 1, .int 0, .int 0, .int 0])), ((ad 10), .inl (k 0, 16, .inl (fun _ => 0))), ((ad 11), .inl (k 0, 16, .inl (fun _ => 0))), ((ad 12), .inl (k 0, 16, .inl (fun _ => 0))), ((ad 13), .inl (k 0, 16, .inl (fun _ => 0)))]) (isC := [0, 2]) (isR := [1, 3, 4, 5, 6]) hP hD hS hA rfl rfl (by decide) (by decide) (gx_runV (na := 1) (As := [.int (-2)]) (rest := []) (ci := 4) C hl.1 hK (gx_subP (wc := ([((ad 0), .inr (4, [.ref (ad 1), .ref (ad 2), .ref (ad 3), .ref (ad 4), .ref (ad 5), .ref (ad 6), .ref (ad 7), .ref (ad 8), .ref (ad 9), .int 0])), ((ad 9), .inl (k 0, 5, .inl (fun _ => 0)))] : va_W)) hP [0, 2] rfl) ((hD.sub (ws' := ([((ad 0), .inr (4, [.ref (ad 1), .ref (ad 2), .ref (ad 3), .ref (ad 4), .ref (ad 5), .ref (ad 6), .ref (ad 7), .ref (ad 8), .ref (ad 9), .int 0])), ((ad 9), .inl (k 0, 5, .inl (fun _ => 0)))] : va_W)) [0, 2] (by decide) rfl).weaken (fun _ _ _ _ => trivial)) (k_refuse2 l D k ad _) gV_RX6_61 (by decide +kernel) rfl rfl ⟨Nat.le_of_ble_eq_true rfl, Nat.le_of_ble_eq_true rfl⟩ rfl rfl rfl rfl (Nat.le_of_ble_eq_true rfl) dX6_road_32 ⟨Nat.le_of_ble_eq_true rfl, Nat.le_of_ble_eq_true rfl⟩) (fun r_33 u_31 H locs h_32 hP hD hS => ?_)
    have h_32 : r_33 = -2 := h_32
    have hP : va_P D gx_cl [((ad 1), .inr (0, [.ref (ad 10), .ref (ad 11), .ref (ad 12), .ref (ad 13), .ref (ad 14), .ref (ad 15), .ref (ad 16), .ref (ad 17), .ref (ad 18), .int 0, .int 0, .int 0, .int 0, .int 1, .int 0, .int 0, .int 0])), ((ad 10), .inl (k 0, 16, .inl (fun _ => 0))), ((ad 11), .inl (k 0, 16, .inl (fun _ => 0))), ((ad 12), .inl (k 0, 16, .inl (fun _ => 0))), ((ad 13), .inl (k 0, 16, .inl (fun _ => 0)))] H := hP
    have hD : va_D A [((ad 1), .inr (0, [.ref (ad 10), .ref (ad 11), .ref (ad 12), .ref (ad 13), .ref (ad 14), .ref (ad 15), .ref (ad 16), .ref (ad 17), .ref (ad 18), .int 0, .int 0, .int 0, .int 0, .int 1, .int 0, .int 0, .int 0])), ((ad 10), .inl (k 0, 16, .inl (fun _ => 0))), ((ad 11), .inl (k 0, 16, .inl (fun _ => 0))), ((ad 12), .inl (k 0, 16, .inl (fun _ => 0))), ((ad 13), .inl (k 0, 16, .inl (fun _ => 0)))] := hD
    have eh_32 := h_32
    subst eh_32
    exact gx_retI C (u := ()) gx_nil gx_noneD hS (by simp [gs_road, c_1]) dX6_road_35
set_option maxHeartbeats 4000000 in
set_option maxRecDepth 100000 in
theorem x_one (l : Launch) (D : va_G) (k : Nat → ClassId) (ad : Nat → Nat) (hv : Int32) (sz : Nat) : Met l yX6_one (.code yX6_one cX6_one 2 (some .int) :: gx_T) ({ frames := 2, cells := 0, slots := 0, locals := 44 }) (gx_Pre D k [.ref (ad 0), .int hv] ([((ad 0), .inr (4, [.ref (ad 1), .ref (ad 2), .ref (ad 3), .ref (ad 4), .ref (ad 5), .ref (ad 6), .ref (ad 7), .ref (ad 8), .ref (ad 9), .int 0])), ((ad 1), .inr (0, [.ref (ad 10), .ref (ad 11), .ref (ad 12), .ref (ad 13), .ref (ad 14), .ref (ad 15), .ref (ad 16), .ref (ad 17), .ref (ad 18), .int 0, .int 0, .int 0, .int 0, .int 1, .int 0, .int 0, .int 0])), ((ad 9), .inl (k 0, 5, .inl (fun _ => 0))), ((ad 14), .inl (k 0, 6, .inl (fun _ => 0))), ((ad 15), .inl (k 0, 6, .inl (fun _ => 0))), ((ad 16), .inl (k 0, 6, .inl (fun _ => 0)))]) sz) (gx_Qi D (fun (r : Int32) (u : Unit) => r = (gs_one hv)) (fun (u : Unit) => ([] : va_W)) (va_A ([((ad 0), .inr (4, [.ref (ad 1), .ref (ad 2), .ref (ad 3), .ref (ad 4), .ref (ad 5), .ref (ad 6), .ref (ad 7), .ref (ad 8), .ref (ad 9), .int 0])), ((ad 1), .inr (0, [.ref (ad 10), .ref (ad 11), .ref (ad 12), .ref (ad 13), .ref (ad 14), .ref (ad 15), .ref (ad 16), .ref (ad 17), .ref (ad 18), .int 0, .int 0, .int 0, .int 0, .int 1, .int 0, .int 0, .int 0])), ((ad 9), .inl (k 0, 5, .inl (fun _ => 0))), ((ad 14), .inl (k 0, 6, .inl (fun _ => 0))), ((ad 15), .inl (k 0, 6, .inl (fun _ => 0))), ((ad 16), .inl (k 0, 6, .inl (fun _ => 0)))]) sz)) 0 0 (va_A ([((ad 0), .inr (4, [.ref (ad 1), .ref (ad 2), .ref (ad 3), .ref (ad 4), .ref (ad 5), .ref (ad 6), .ref (ad 7), .ref (ad 8), .ref (ad 9), .int 0])), ((ad 1), .inr (0, [.ref (ad 10), .ref (ad 11), .ref (ad 12), .ref (ad 13), .ref (ad 14), .ref (ad 15), .ref (ad 16), .ref (ad 17), .ref (ad 18), .int 0, .int 0, .int 0, .int 0, .int 1, .int 0, .int 0, .int 0])), ((ad 9), .inl (k 0, 5, .inl (fun _ => 0))), ((ad 14), .inl (k 0, 6, .inl (fun _ => 0))), ((ad 15), .inl (k 0, 6, .inl (fun _ => 0))), ((ad 16), .inl (k 0, 6, .inl (fun _ => 0)))]) sz) := by
  refine gx_metE (Qc := fun A => gx_Qi D (fun (r : Int32) (u : Unit) => r = (gs_one hv)) (fun (u : Unit) => ([] : va_W)) A) (by decide) (Nat.le_of_ble_eq_true rfl) ?_
  intro p e s m below meth c A ls C hA hP hD hK hS hl
  obtain ⟨hx, hb, hr, hml, hown, hT, hlk, hin⟩ := id C
  have hown : s.vm.findClass RX6 = some m.cls := hown
  have hl : lv_has ls 2 [(0, .ref (ad 0)), (1, .int hv)] := hl
  refine lv_iload_n hx hb dX6_one_0 rfl (lv_at hl 1 rfl) ?_
  refine gx_pi hP hS (gx_runS (na := 1) (As := [.int hv]) (rest := []) C hl.1 hK (gx_subP (wc := ([] : va_W)) hP [] rfl) ((hD.sub (ws' := ([] : va_W)) [] (by decide) rfl).weaken (fun _ _ _ _ => trivial)) (k_isPlace l D k hv _) gS_RX6_130 (by decide +kernel) rfl rfl ⟨Nat.le_of_ble_eq_true rfl, Nat.le_of_ble_eq_true rfl⟩ rfl rfl (Nat.le_of_ble_eq_true rfl) dX6_one_1 ⟨Nat.le_of_ble_eq_true rfl, Nat.le_of_ble_eq_true rfl⟩) (fun r_2 H locs pc_1 hP hS => ?_)
  have oc_1 : r_2 = 1 ∧ gx_b hv 0 7 = true ∨ r_2 = 0 ∧ gx_b hv 0 7 = false := pc_1
  clear pc_1
  rcases oc_1 with ⟨rfl, c_1⟩ | ⟨rfl, c_1⟩
  · refine lv_if_ne (tgt := 14) hx hb dX6_one_4 (by decide) (fun c_3 => ?_) (fun c_3 => absurd c_3 (by decide))
    refine lv_aload_n hx hb dX6_one_14 rfl (lv_at hl 0 rfl) ?_
    refine va_get (D := D) (ci := 4) (v := .ref (ad 1)) (C := RX6) (T := TX6) (N := 10) hx hb hT iw_TX6 hown hK.1 hP 0 rfl rfl 0 (by decide) (hT _ wd_271) (fun _ h9 => h9) rfl dX6_one_15 ?_
    refine va_get (D := D) (ci := 0) (v := .int 0) (C := RX1) (T := TX1) (N := 17) hx hb hT iw_TX1 hown hK.1 hP 1 rfl rfl 10 (by decide) (hT _ wd_138) (fun _ h9 => h9) rfl dX6_one_18 ?_
    refine lv_bipush (v := 6) hx hb dX6_one_21 (by decide) ?_
    refine lv_icmp_ne (tgt := 35) hx hb dX6_one_23 (by decide) (fun c_4 => ?_) (fun c_4 => absurd c_4 (by decide))
    refine lv_aload_n hx hb dX6_one_35 rfl (lv_at hl 0 rfl) ?_
    refine va_get (D := D) (ci := 4) (v := .ref (ad 1)) (C := RX6) (T := TX6) (N := 10) hx hb hT iw_TX6 hown hK.1 hP 0 rfl rfl 0 (by decide) (hT _ wd_271) (fun _ h9 => h9) rfl dX6_one_36 ?_
    refine lv_iload_n hx hb dX6_one_39 rfl (lv_at hl 1 rfl) ?_
    refine gx_ei (wc := ([((ad 1), .inr (0, [.ref (ad 10), .ref (ad 11), .ref (ad 12), .ref (ad 13), .ref (ad 14), .ref (ad 15), .ref (ad 16), .ref (ad 17), .ref (ad 18), .int 0, .int 0, .int 0, .int 0, .int 1, .int 0, .int 0, .int 0])), ((ad 14), .inl (k 0, 6, .inl (fun _ => 0))), ((ad 15), .inl (k 0, 6, .inl (fun _ => 0))), ((ad 16), .inl (k 0, 6, .inl (fun _ => 0)))] : va_W)) (wr := [((ad 0), .inr (4, [.ref (ad 1), .ref (ad 2), .ref (ad 3), .ref (ad 4), .ref (ad 5), .ref (ad 6), .ref (ad 7), .ref (ad 8), .ref (ad 9), .int 0])), ((ad 9), .inl (k 0, 5, .inl (fun _ => 0)))]) (isC := [1, 3, 4, 5]) (isR := [0, 2]) hP hD hS hA rfl rfl (by decide) (by decide) (gx_runV (na := 1) (As := [.int hv]) (rest := []) (ci := 0) C hl.1 hK (gx_subP (wc := ([((ad 1), .inr (0, [.ref (ad 10), .ref (ad 11), .ref (ad 12), .ref (ad 13), .ref (ad 14), .ref (ad 15), .ref (ad 16), .ref (ad 17), .ref (ad 18), .int 0, .int 0, .int 0, .int 0, .int 1, .int 0, .int 0, .int 0])), ((ad 14), .inl (k 0, 6, .inl (fun _ => 0))), ((ad 15), .inl (k 0, 6, .inl (fun _ => 0))), ((ad 16), .inl (k 0, 6, .inl (fun _ => 0)))] : va_W)) hP [1, 3, 4, 5] rfl) ((hD.sub (ws' := ([((ad 1), .inr (0, [.ref (ad 10), .ref (ad 11), .ref (ad 12), .ref (ad 13), .ref (ad 14), .ref (ad 15), .ref (ad 16), .ref (ad 17), .ref (ad 18), .int 0, .int 0, .int 0, .int 0, .int 1, .int 0, .int 0, .int 0])), ((ad 14), .inl (k 0, 6, .inl (fun _ => 0))), ((ad 15), .inl (k 0, 6, .inl (fun _ => 0))), ((ad 16), .inl (k 0, 6, .inl (fun _ => 0)))] : va_W)) [1, 3, 4, 5] (by decide) rfl).weaken (fun _ _ _ _ => trivial)) (k_settle l D k (ad 1) (ad 10) (ad 11) (ad 12) (ad 13) (ad 14) (ad 15) (ad 16) (ad 17) (ad 18) hv _) gV_RX6_140 (by decide +kernel) rfl rfl ⟨Nat.le_of_ble_eq_true rfl, Nat.le_of_ble_eq_true rfl⟩ rfl rfl rfl rfl (Nat.le_of_ble_eq_true rfl) dX6_one_40 ⟨Nat.le_of_ble_eq_true rfl, Nat.le_of_ble_eq_true rfl⟩) (fun r_7 u_5 H locs h_6 hP hD hS => ?_)
    have h_6 : r_7 = 0 := h_6
    have hP : va_P D gx_cl [((ad 0), .inr (4, [.ref (ad 1), .ref (ad 2), .ref (ad 3), .ref (ad 4), .ref (ad 5), .ref (ad 6), .ref (ad 7), .ref (ad 8), .ref (ad 9), .int 0])), ((ad 9), .inl (k 0, 5, .inl (fun _ => 0)))] H := hP
    have hD : va_D A [((ad 0), .inr (4, [.ref (ad 1), .ref (ad 2), .ref (ad 3), .ref (ad 4), .ref (ad 5), .ref (ad 6), .ref (ad 7), .ref (ad 8), .ref (ad 9), .int 0])), ((ad 9), .inl (k 0, 5, .inl (fun _ => 0)))] := hD
    have eh_6 := h_6
    subst eh_6
    exact gx_retI C (u := ()) gx_nil gx_noneD hS (by simp [gs_one, c_1]) dX6_one_43
  · refine lv_if_ne (tgt := 14) hx hb dX6_one_4 (by decide) (fun c_9 => absurd (by decide) c_9) (fun c_9 => ?_)
    refine lv_aload_n hx hb dX6_one_7 rfl (lv_at hl 0 rfl) ?_
    refine lv_bipush (v := (-2)) hx hb dX6_one_8 (by decide) ?_
    refine gx_ei (wc := ([((ad 0), .inr (4, [.ref (ad 1), .ref (ad 2), .ref (ad 3), .ref (ad 4), .ref (ad 5), .ref (ad 6), .ref (ad 7), .ref (ad 8), .ref (ad 9), .int 0])), ((ad 9), .inl (k 0, 5, .inl (fun _ => 0)))] : va_W)) (wr := [((ad 1), .inr (0, [.ref (ad 10), .ref (ad 11), .ref (ad 12), .ref (ad 13), .ref (ad 14), .ref (ad 15), .ref (ad 16), .ref (ad 17), .ref (ad 18), .int 0, .int 0, .int 0, .int 0, .int 1, .int 0, .int 0, .int 0])), ((ad 14), .inl (k 0, 6, .inl (fun _ => 0))), ((ad 15), .inl (k 0, 6, .inl (fun _ => 0))), ((ad 16), .inl (k 0, 6, .inl (fun _ => 0)))]) (isC := [0, 2]) (isR := [1, 3, 4, 5]) hP hD hS hA rfl rfl (by decide) (by decide) (gx_runV (na := 1) (As := [.int (-2)]) (rest := []) (ci := 4) C hl.1 hK (gx_subP (wc := ([((ad 0), .inr (4, [.ref (ad 1), .ref (ad 2), .ref (ad 3), .ref (ad 4), .ref (ad 5), .ref (ad 6), .ref (ad 7), .ref (ad 8), .ref (ad 9), .int 0])), ((ad 9), .inl (k 0, 5, .inl (fun _ => 0)))] : va_W)) hP [0, 2] rfl) ((hD.sub (ws' := ([((ad 0), .inr (4, [.ref (ad 1), .ref (ad 2), .ref (ad 3), .ref (ad 4), .ref (ad 5), .ref (ad 6), .ref (ad 7), .ref (ad 8), .ref (ad 9), .int 0])), ((ad 9), .inl (k 0, 5, .inl (fun _ => 0)))] : va_W)) [0, 2] (by decide) rfl).weaken (fun _ _ _ _ => trivial)) (k_refuse2 l D k ad _) gV_RX6_61 (by decide +kernel) rfl rfl ⟨Nat.le_of_ble_eq_true rfl, Nat.le_of_ble_eq_true rfl⟩ rfl rfl rfl rfl (Nat.le_of_ble_eq_true rfl) dX6_one_10 ⟨Nat.le_of_ble_eq_true rfl, Nat.le_of_ble_eq_true rfl⟩) (fun r_12 u_10 H locs h_11 hP hD hS => ?_)
    have h_11 : r_12 = -2 := h_11
    have hP : va_P D gx_cl [((ad 1), .inr (0, [.ref (ad 10), .ref (ad 11), .ref (ad 12), .ref (ad 13), .ref (ad 14), .ref (ad 15), .ref (ad 16), .ref (ad 17), .ref (ad 18), .int 0, .int 0, .int 0, .int 0, .int 1, .int 0, .int 0, .int 0])), ((ad 14), .inl (k 0, 6, .inl (fun _ => 0))), ((ad 15), .inl (k 0, 6, .inl (fun _ => 0))), ((ad 16), .inl (k 0, 6, .inl (fun _ => 0)))] H := hP
    have hD : va_D A [((ad 1), .inr (0, [.ref (ad 10), .ref (ad 11), .ref (ad 12), .ref (ad 13), .ref (ad 14), .ref (ad 15), .ref (ad 16), .ref (ad 17), .ref (ad 18), .int 0, .int 0, .int 0, .int 0, .int 1, .int 0, .int 0, .int 0])), ((ad 14), .inl (k 0, 6, .inl (fun _ => 0))), ((ad 15), .inl (k 0, 6, .inl (fun _ => 0))), ((ad 16), .inl (k 0, 6, .inl (fun _ => 0)))] := hD
    have eh_11 := h_11
    subst eh_11
    exact gx_retI C (u := ()) gx_nil gx_noneD hS (by simp [gs_one, c_1]) dX6_one_13
set_option maxHeartbeats 4000000 in
set_option maxRecDepth 100000 in
theorem x_shut (l : Launch) (D : va_G) (k : Nat → ClassId) (ad : Nat → Nat) (rv : Int32) (zv : Int32) (sz : Nat) : Met l yX6_shut (.code yX6_shut cX6_shut 3 (some .int) :: gx_T) ({ frames := 2, cells := 0, slots := 0, locals := 43 }) (gx_Pre D k [.ref (ad 0), .int rv, .int zv] ([((ad 0), .inr (4, [.ref (ad 1), .ref (ad 2), .ref (ad 3), .ref (ad 4), .ref (ad 5), .ref (ad 6), .ref (ad 7), .ref (ad 8), .ref (ad 9), .int 0])), ((ad 1), .inr (0, [.ref (ad 10), .ref (ad 11), .ref (ad 12), .ref (ad 13), .ref (ad 14), .ref (ad 15), .ref (ad 16), .ref (ad 17), .ref (ad 18), .int 0, .int 0, .int 0, .int 0, .int 1, .int 0, .int 0, .int 0])), ((ad 9), .inl (k 0, 5, .inl (fun _ => 0)))]) sz) (gx_Qi D (fun (r : Int32) (u : Unit) => r = -2) (fun (u : Unit) => ([] : va_W)) (va_A ([((ad 0), .inr (4, [.ref (ad 1), .ref (ad 2), .ref (ad 3), .ref (ad 4), .ref (ad 5), .ref (ad 6), .ref (ad 7), .ref (ad 8), .ref (ad 9), .int 0])), ((ad 1), .inr (0, [.ref (ad 10), .ref (ad 11), .ref (ad 12), .ref (ad 13), .ref (ad 14), .ref (ad 15), .ref (ad 16), .ref (ad 17), .ref (ad 18), .int 0, .int 0, .int 0, .int 0, .int 1, .int 0, .int 0, .int 0])), ((ad 9), .inl (k 0, 5, .inl (fun _ => 0)))]) sz)) 0 0 (va_A ([((ad 0), .inr (4, [.ref (ad 1), .ref (ad 2), .ref (ad 3), .ref (ad 4), .ref (ad 5), .ref (ad 6), .ref (ad 7), .ref (ad 8), .ref (ad 9), .int 0])), ((ad 1), .inr (0, [.ref (ad 10), .ref (ad 11), .ref (ad 12), .ref (ad 13), .ref (ad 14), .ref (ad 15), .ref (ad 16), .ref (ad 17), .ref (ad 18), .int 0, .int 0, .int 0, .int 0, .int 1, .int 0, .int 0, .int 0])), ((ad 9), .inl (k 0, 5, .inl (fun _ => 0)))]) sz) := by
  refine gx_metE (Qc := fun A => gx_Qi D (fun (r : Int32) (u : Unit) => r = -2) (fun (u : Unit) => ([] : va_W)) A) (by decide) (Nat.le_of_ble_eq_true rfl) ?_
  intro p e s m below meth c A ls C hA hP hD hK hS hl
  obtain ⟨hx, hb, hr, hml, hown, hT, hlk, hin⟩ := id C
  have hown : s.vm.findClass RX6 = some m.cls := hown
  have hl : lv_has ls 3 [(0, .ref (ad 0)), (1, .int rv), (2, .int zv)] := hl
  refine lv_aload_n hx hb dX6_shut_0 rfl (lv_at hl 0 rfl) ?_
  refine lv_iload_n hx hb dX6_shut_1 rfl (lv_at hl 1 rfl) ?_
  refine gx_pi hP hS (gx_runV (na := 1) (As := [.int rv]) (rest := []) (ci := 4) C hl.1 hK (gx_subP (wc := ([((ad 0), .inr (4, [.ref (ad 1), .ref (ad 2), .ref (ad 3), .ref (ad 4), .ref (ad 5), .ref (ad 6), .ref (ad 7), .ref (ad 8), .ref (ad 9), .int 0])), ((ad 1), .inr (0, [.ref (ad 10), .ref (ad 11), .ref (ad 12), .ref (ad 13), .ref (ad 14), .ref (ad 15), .ref (ad 16), .ref (ad 17), .ref (ad 18), .int 0, .int 0, .int 0, .int 0, .int 1, .int 0, .int 0, .int 0]))] : va_W)) hP [0, 1] rfl) ((hD.sub (ws' := ([((ad 0), .inr (4, [.ref (ad 1), .ref (ad 2), .ref (ad 3), .ref (ad 4), .ref (ad 5), .ref (ad 6), .ref (ad 7), .ref (ad 8), .ref (ad 9), .int 0])), ((ad 1), .inr (0, [.ref (ad 10), .ref (ad 11), .ref (ad 12), .ref (ad 13), .ref (ad 14), .ref (ad 15), .ref (ad 16), .ref (ad 17), .ref (ad 18), .int 0, .int 0, .int 0, .int 0, .int 1, .int 0, .int 0, .int 0]))] : va_W)) [0, 1] (by decide) rfl).weaken (fun _ _ _ _ => trivial)) (k_isRoad l D k ad rv _) gV_RX6_143 (by decide +kernel) rfl rfl ⟨Nat.le_of_ble_eq_true rfl, Nat.le_of_ble_eq_true rfl⟩ rfl rfl rfl rfl (Nat.le_of_ble_eq_true rfl) dX6_shut_2 ⟨Nat.le_of_ble_eq_true rfl, Nat.le_of_ble_eq_true rfl⟩) (fun r_2 H locs c_1 hP hS => ?_)
  have c_1 : r_2 = 0 := c_1
  subst c_1
  refine lv_if_ne (tgt := 15) hx hb dX6_shut_5 (by decide) (fun c_3 => absurd (by decide) c_3) (fun c_3 => ?_)
  refine lv_aload_n hx hb dX6_shut_8 rfl (lv_at hl 0 rfl) ?_
  refine lv_bipush (v := (-2)) hx hb dX6_shut_9 (by decide) ?_
  refine gx_ei (wc := ([((ad 0), .inr (4, [.ref (ad 1), .ref (ad 2), .ref (ad 3), .ref (ad 4), .ref (ad 5), .ref (ad 6), .ref (ad 7), .ref (ad 8), .ref (ad 9), .int 0])), ((ad 9), .inl (k 0, 5, .inl (fun _ => 0)))] : va_W)) (wr := [((ad 1), .inr (0, [.ref (ad 10), .ref (ad 11), .ref (ad 12), .ref (ad 13), .ref (ad 14), .ref (ad 15), .ref (ad 16), .ref (ad 17), .ref (ad 18), .int 0, .int 0, .int 0, .int 0, .int 1, .int 0, .int 0, .int 0]))]) (isC := [0, 2]) (isR := [1]) hP hD hS hA rfl rfl (by decide) (by decide) (gx_runV (na := 1) (As := [.int (-2)]) (rest := []) (ci := 4) C hl.1 hK (gx_subP (wc := ([((ad 0), .inr (4, [.ref (ad 1), .ref (ad 2), .ref (ad 3), .ref (ad 4), .ref (ad 5), .ref (ad 6), .ref (ad 7), .ref (ad 8), .ref (ad 9), .int 0])), ((ad 9), .inl (k 0, 5, .inl (fun _ => 0)))] : va_W)) hP [0, 2] rfl) ((hD.sub (ws' := ([((ad 0), .inr (4, [.ref (ad 1), .ref (ad 2), .ref (ad 3), .ref (ad 4), .ref (ad 5), .ref (ad 6), .ref (ad 7), .ref (ad 8), .ref (ad 9), .int 0])), ((ad 9), .inl (k 0, 5, .inl (fun _ => 0)))] : va_W)) [0, 2] (by decide) rfl).weaken (fun _ _ _ _ => trivial)) (k_refuse2 l D k ad _) gV_RX6_61 (by decide +kernel) rfl rfl ⟨Nat.le_of_ble_eq_true rfl, Nat.le_of_ble_eq_true rfl⟩ rfl rfl rfl rfl (Nat.le_of_ble_eq_true rfl) dX6_shut_11 ⟨Nat.le_of_ble_eq_true rfl, Nat.le_of_ble_eq_true rfl⟩) (fun r_6 u_4 H locs h_5 hP hD hS => ?_)
  have h_5 : r_6 = -2 := h_5
  have hP : va_P D gx_cl [((ad 1), .inr (0, [.ref (ad 10), .ref (ad 11), .ref (ad 12), .ref (ad 13), .ref (ad 14), .ref (ad 15), .ref (ad 16), .ref (ad 17), .ref (ad 18), .int 0, .int 0, .int 0, .int 0, .int 1, .int 0, .int 0, .int 0]))] H := hP
  have hD : va_D A [((ad 1), .inr (0, [.ref (ad 10), .ref (ad 11), .ref (ad 12), .ref (ad 13), .ref (ad 14), .ref (ad 15), .ref (ad 16), .ref (ad 17), .ref (ad 18), .int 0, .int 0, .int 0, .int 0, .int 1, .int 0, .int 0, .int 0]))] := hD
  have eh_5 := h_5
  subst eh_5
  exact gx_retI C (u := ()) gx_nil gx_noneD hS (rfl) dX6_shut_14
set_option maxHeartbeats 4000000 in
set_option maxRecDepth 100000 in
theorem x_anew (l : Launch) (D : va_G) (k : Nat → ClassId) (ad : Nat → Nat) (nv : Int32) (sz : Nat) : Met l yX6_anew (.code yX6_anew cX6_anew 3 (some .int) :: gx_T) ({ frames := 2, cells := 0, slots := 0, locals := 43 }) (gx_Pre D k [.ref (ad 0), .int nv] ([((ad 0), .inr (4, [.ref (ad 1), .ref (ad 2), .ref (ad 3), .ref (ad 4), .ref (ad 5), .ref (ad 6), .ref (ad 7), .ref (ad 8), .ref (ad 9), .int 0])), ((ad 1), .inr (0, [.ref (ad 10), .ref (ad 11), .ref (ad 12), .ref (ad 13), .ref (ad 14), .ref (ad 15), .ref (ad 16), .ref (ad 17), .ref (ad 18), .int 0, .int 0, .int 0, .int 0, .int 1, .int 0, .int 0, .int 0])), ((ad 9), .inl (k 0, 5, .inl (fun _ => 0)))]) sz) (gx_Qi D (fun (r : Int32) (u : Unit) => r = (gs_anew nv)) (fun (u : Unit) => ([] : va_W)) (va_A ([((ad 0), .inr (4, [.ref (ad 1), .ref (ad 2), .ref (ad 3), .ref (ad 4), .ref (ad 5), .ref (ad 6), .ref (ad 7), .ref (ad 8), .ref (ad 9), .int 0])), ((ad 1), .inr (0, [.ref (ad 10), .ref (ad 11), .ref (ad 12), .ref (ad 13), .ref (ad 14), .ref (ad 15), .ref (ad 16), .ref (ad 17), .ref (ad 18), .int 0, .int 0, .int 0, .int 0, .int 1, .int 0, .int 0, .int 0])), ((ad 9), .inl (k 0, 5, .inl (fun _ => 0)))]) sz)) 0 0 (va_A ([((ad 0), .inr (4, [.ref (ad 1), .ref (ad 2), .ref (ad 3), .ref (ad 4), .ref (ad 5), .ref (ad 6), .ref (ad 7), .ref (ad 8), .ref (ad 9), .int 0])), ((ad 1), .inr (0, [.ref (ad 10), .ref (ad 11), .ref (ad 12), .ref (ad 13), .ref (ad 14), .ref (ad 15), .ref (ad 16), .ref (ad 17), .ref (ad 18), .int 0, .int 0, .int 0, .int 0, .int 1, .int 0, .int 0, .int 0])), ((ad 9), .inl (k 0, 5, .inl (fun _ => 0)))]) sz) := by
  refine gx_metE (Qc := fun A => gx_Qi D (fun (r : Int32) (u : Unit) => r = (gs_anew nv)) (fun (u : Unit) => ([] : va_W)) A) (by decide) (Nat.le_of_ble_eq_true rfl) ?_
  intro p e s m below meth c A ls C hA hP hD hK hS hl
  obtain ⟨hx, hb, hr, hml, hown, hT, hlk, hin⟩ := id C
  have hown : s.vm.findClass RX6 = some m.cls := hown
  have hl : lv_has ls 3 [(0, .ref (ad 0)), (1, .int nv)] := hl
  refine lv_iload_n hx hb dX6_anew_0 rfl (lv_at hl 1 rfl) ?_
  refine lv_iconst (v := 0) hx hb dX6_anew_1 (by decide) ?_
  refine lv_bipush (v := 99) hx hb dX6_anew_2 (by decide) ?_
  refine gx_pi hP hS (gx_runS (na := 3) (As := [.int nv, .int 0, .int 99]) (rest := []) C hl.1 hK (gx_subP (wc := ([] : va_W)) hP [] rfl) ((hD.sub (ws' := ([] : va_W)) [] (by decide) rfl).weaken (fun _ _ _ _ => trivial)) (k_isBetween l D k nv 0 99 _) gS_RX6_57 (by decide +kernel) rfl rfl ⟨Nat.le_of_ble_eq_true rfl, Nat.le_of_ble_eq_true rfl⟩ rfl rfl (Nat.le_of_ble_eq_true rfl) dX6_anew_4 ⟨Nat.le_of_ble_eq_true rfl, Nat.le_of_ble_eq_true rfl⟩) (fun r_2 H locs pc_1 hP hS => ?_)
  have oc_1 : r_2 = 1 ∧ gx_b nv 0 99 = true ∨ r_2 = 0 ∧ gx_b nv 0 99 = false := pc_1
  clear pc_1
  rcases oc_1 with ⟨rfl, c_1⟩ | ⟨rfl, c_1⟩
  · refine lv_if_ne (tgt := 17) hx hb dX6_anew_7 (by decide) (fun c_3 => ?_) (fun c_3 => absurd c_3 (by decide))
    refine lv_aload_n hx hb dX6_anew_17 rfl (lv_at hl 0 rfl) ?_
    refine va_get (D := D) (ci := 4) (v := .ref (ad 1)) (C := RX6) (T := TX6) (N := 10) hx hb hT iw_TX6 hown hK.1 hP 0 rfl rfl 0 (by decide) (hT _ wd_271) (fun _ h9 => h9) rfl dX6_anew_18 ?_
    refine va_get (D := D) (ci := 0) (v := .int 0) (C := RX1) (T := TX1) (N := 17) hx hb hT iw_TX1 hown hK.1 hP 1 rfl rfl 12 (by decide) (hT _ wd_143) (fun _ h9 => h9) rfl dX6_anew_21 ?_
    refine lv_istore_n (lv' := [(2, .int 0), (0, .ref (ad 0)), (1, .int nv)]) hx hb dX6_anew_24 rfl hl (by decide) rfl (fun ls hl => ?_)
    refine lv_aload_n hx hb dX6_anew_25 rfl (lv_at hl 1 rfl) ?_
    refine va_get (D := D) (ci := 4) (v := .ref (ad 1)) (C := RX6) (T := TX6) (N := 10) hx hb hT iw_TX6 hown hK.1 hP 0 rfl rfl 0 (by decide) (hT _ wd_271) (fun _ h9 => h9) rfl dX6_anew_26 ?_
    refine lv_iload_n hx hb dX6_anew_29 rfl (lv_at hl 2 rfl) ?_
    refine va_put (D := D) (ci := 0) (v := .int nv) (ty := .int) (C := RX1) (T := TX1) (N := 17) hx hb hT iw_TX1 tyX1 tyX1_ok nmX1 hown hK.1 hP hD hS 1 rfl rfl 12 (by decide) (hT _ wd_143) (fun _ h9 => h9) rfl (by decide +kernel) rfl rfl (Nat.le_of_ble_eq_true rfl) dX6_anew_30 (fun H locs hP hD hS => ?_)
    have hP : va_P D gx_cl [((ad 0), .inr (4, [.ref (ad 1), .ref (ad 2), .ref (ad 3), .ref (ad 4), .ref (ad 5), .ref (ad 6), .ref (ad 7), .ref (ad 8), .ref (ad 9), .int 0])), ((ad 1), .inr (0, [.ref (ad 10), .ref (ad 11), .ref (ad 12), .ref (ad 13), .ref (ad 14), .ref (ad 15), .ref (ad 16), .ref (ad 17), .ref (ad 18), .int 0, .int 0, .int 0, .int nv, .int 1, .int 0, .int 0, .int 0])), ((ad 9), .inl (k 0, 5, .inl (fun _ => 0)))] H := hP
    have hD : va_D A [((ad 0), .inr (4, [.ref (ad 1), .ref (ad 2), .ref (ad 3), .ref (ad 4), .ref (ad 5), .ref (ad 6), .ref (ad 7), .ref (ad 8), .ref (ad 9), .int 0])), ((ad 1), .inr (0, [.ref (ad 10), .ref (ad 11), .ref (ad 12), .ref (ad 13), .ref (ad 14), .ref (ad 15), .ref (ad 16), .ref (ad 17), .ref (ad 18), .int 0, .int 0, .int 0, .int nv, .int 1, .int 0, .int 0, .int 0])), ((ad 9), .inl (k 0, 5, .inl (fun _ => 0)))] := hD
    refine lv_iload_n hx hb dX6_anew_33 rfl (lv_at hl 0 rfl) ?_
    exact gx_retI C (u := ()) gx_nil gx_noneD hS (by simp [gs_anew, c_1]) dX6_anew_34
  · refine lv_if_ne (tgt := 17) hx hb dX6_anew_7 (by decide) (fun c_4 => absurd (by decide) c_4) (fun c_4 => ?_)
    refine lv_aload_n hx hb dX6_anew_10 rfl (lv_at hl 0 rfl) ?_
    refine lv_bipush (v := (-2)) hx hb dX6_anew_11 (by decide) ?_
    refine gx_ei (wc := ([((ad 0), .inr (4, [.ref (ad 1), .ref (ad 2), .ref (ad 3), .ref (ad 4), .ref (ad 5), .ref (ad 6), .ref (ad 7), .ref (ad 8), .ref (ad 9), .int 0])), ((ad 9), .inl (k 0, 5, .inl (fun _ => 0)))] : va_W)) (wr := [((ad 1), .inr (0, [.ref (ad 10), .ref (ad 11), .ref (ad 12), .ref (ad 13), .ref (ad 14), .ref (ad 15), .ref (ad 16), .ref (ad 17), .ref (ad 18), .int 0, .int 0, .int 0, .int 0, .int 1, .int 0, .int 0, .int 0]))]) (isC := [0, 2]) (isR := [1]) hP hD hS hA rfl rfl (by decide) (by decide) (gx_runV (na := 1) (As := [.int (-2)]) (rest := []) (ci := 4) C hl.1 hK (gx_subP (wc := ([((ad 0), .inr (4, [.ref (ad 1), .ref (ad 2), .ref (ad 3), .ref (ad 4), .ref (ad 5), .ref (ad 6), .ref (ad 7), .ref (ad 8), .ref (ad 9), .int 0])), ((ad 9), .inl (k 0, 5, .inl (fun _ => 0)))] : va_W)) hP [0, 2] rfl) ((hD.sub (ws' := ([((ad 0), .inr (4, [.ref (ad 1), .ref (ad 2), .ref (ad 3), .ref (ad 4), .ref (ad 5), .ref (ad 6), .ref (ad 7), .ref (ad 8), .ref (ad 9), .int 0])), ((ad 9), .inl (k 0, 5, .inl (fun _ => 0)))] : va_W)) [0, 2] (by decide) rfl).weaken (fun _ _ _ _ => trivial)) (k_refuse2 l D k ad _) gV_RX6_61 (by decide +kernel) rfl rfl ⟨Nat.le_of_ble_eq_true rfl, Nat.le_of_ble_eq_true rfl⟩ rfl rfl rfl rfl (Nat.le_of_ble_eq_true rfl) dX6_anew_13 ⟨Nat.le_of_ble_eq_true rfl, Nat.le_of_ble_eq_true rfl⟩) (fun r_7 u_5 H locs h_6 hP hD hS => ?_)
    have h_6 : r_7 = -2 := h_6
    have hP : va_P D gx_cl [((ad 1), .inr (0, [.ref (ad 10), .ref (ad 11), .ref (ad 12), .ref (ad 13), .ref (ad 14), .ref (ad 15), .ref (ad 16), .ref (ad 17), .ref (ad 18), .int 0, .int 0, .int 0, .int 0, .int 1, .int 0, .int 0, .int 0]))] H := hP
    have hD : va_D A [((ad 1), .inr (0, [.ref (ad 10), .ref (ad 11), .ref (ad 12), .ref (ad 13), .ref (ad 14), .ref (ad 15), .ref (ad 16), .ref (ad 17), .ref (ad 18), .int 0, .int 0, .int 0, .int 0, .int 1, .int 0, .int 0, .int 0]))] := hD
    have eh_6 := h_6
    subst eh_6
    exact gx_retI C (u := ()) gx_nil gx_noneD hS (by simp [gs_anew, c_1]) dX6_anew_16
set_option maxHeartbeats 4000000 in
set_option maxRecDepth 100000 in
theorem x_feed (l : Launch) (D : va_G) (k : Nat → ClassId) (ad : Nat → Nat) (vv : Int32) (nv : Int32) (sz : Nat) : Met l yX6_feed (.code yX6_feed cX6_feed 3 (some .int) :: gx_T) ({ frames := 2, cells := 0, slots := 0, locals := 43 }) (gx_Pre D k [.ref (ad 0), .int vv, .int nv] ([((ad 0), .inr (4, [.ref (ad 1), .ref (ad 2), .ref (ad 3), .ref (ad 4), .ref (ad 5), .ref (ad 6), .ref (ad 7), .ref (ad 8), .ref (ad 9), .int 0])), ((ad 9), .inl (k 0, 5, .inl (fun _ => 0))), ((ad 4), .inr (2, [.ref (ad 40), .int 0, .int (-1), .int 0, .int 0, .int 0])), ((ad 40), .inl (k 0, 250, .inl (fun _ => 0)))]) sz) (gx_Qi D (fun (r : Int32) (u : Unit) => r = (gs_feed nv)) (fun (u : Unit) => ([] : va_W)) (va_A ([((ad 0), .inr (4, [.ref (ad 1), .ref (ad 2), .ref (ad 3), .ref (ad 4), .ref (ad 5), .ref (ad 6), .ref (ad 7), .ref (ad 8), .ref (ad 9), .int 0])), ((ad 9), .inl (k 0, 5, .inl (fun _ => 0))), ((ad 4), .inr (2, [.ref (ad 40), .int 0, .int (-1), .int 0, .int 0, .int 0])), ((ad 40), .inl (k 0, 250, .inl (fun _ => 0)))]) sz)) 0 0 (va_A ([((ad 0), .inr (4, [.ref (ad 1), .ref (ad 2), .ref (ad 3), .ref (ad 4), .ref (ad 5), .ref (ad 6), .ref (ad 7), .ref (ad 8), .ref (ad 9), .int 0])), ((ad 9), .inl (k 0, 5, .inl (fun _ => 0))), ((ad 4), .inr (2, [.ref (ad 40), .int 0, .int (-1), .int 0, .int 0, .int 0])), ((ad 40), .inl (k 0, 250, .inl (fun _ => 0)))]) sz) := by
  refine gx_metE (Qc := fun A => gx_Qi D (fun (r : Int32) (u : Unit) => r = (gs_feed nv)) (fun (u : Unit) => ([] : va_W)) A) (by decide) (Nat.le_of_ble_eq_true rfl) ?_
  intro p e s m below meth c A ls C hA hP hD hK hS hl
  obtain ⟨hx, hb, hr, hml, hown, hT, hlk, hin⟩ := id C
  have hown : s.vm.findClass RX6 = some m.cls := hown
  have hl : lv_has ls 3 [(0, .ref (ad 0)), (1, .int vv), (2, .int nv)] := hl
  refine lv_iload_n hx hb dX6_feed_0 rfl (lv_at hl 2 rfl) ?_
  refine lv_iconst (v := 1) hx hb dX6_feed_1 (by decide) ?_
  refine lv_iconst (v := 4) hx hb dX6_feed_2 (by decide) ?_
  refine gx_pi hP hS (gx_runS (na := 3) (As := [.int nv, .int 1, .int 4]) (rest := []) C hl.1 hK (gx_subP (wc := ([] : va_W)) hP [] rfl) ((hD.sub (ws' := ([] : va_W)) [] (by decide) rfl).weaken (fun _ _ _ _ => trivial)) (k_isBetween l D k nv 1 4 _) gS_RX6_57 (by decide +kernel) rfl rfl ⟨Nat.le_of_ble_eq_true rfl, Nat.le_of_ble_eq_true rfl⟩ rfl rfl (Nat.le_of_ble_eq_true rfl) dX6_feed_3 ⟨Nat.le_of_ble_eq_true rfl, Nat.le_of_ble_eq_true rfl⟩) (fun r_2 H locs pc_1 hP hS => ?_)
  have oc_1 : r_2 = 1 ∧ gx_b nv 1 4 = true ∨ r_2 = 0 ∧ gx_b nv 1 4 = false := pc_1
  clear pc_1
  rcases oc_1 with ⟨rfl, c_1⟩ | ⟨rfl, c_1⟩
  · rcases gx_4 c_1 with rfl | rfl | rfl | rfl
    · refine lv_if_ne (tgt := 16) hx hb dX6_feed_6 (by decide) (fun c_3 => ?_) (fun c_3 => absurd c_3 (by decide))
      refine lv_aload_n hx hb dX6_feed_16 rfl (lv_at hl 0 rfl) ?_
      refine va_get (D := D) (ci := 4) (v := .ref (ad 4)) (C := RX6) (T := TX6) (N := 10) hx hb hT iw_TX6 hown hK.1 hP 0 rfl rfl 3 (by decide) (hT _ wd_274) (fun _ h9 => h9) rfl dX6_feed_17 ?_
      refine va_get (D := D) (ci := 2) (v := .int 0) (C := RX4) (T := TX4) (N := 6) hx hb hT iw_TX4 hown hK.1 hP 2 rfl rfl 1 (by decide) (hT _ wd_197) (fun _ h9 => h9) rfl dX6_feed_20 ?_
      refine lv_iload_n hx hb dX6_feed_23 rfl (lv_at hl 2 rfl) ?_
      refine lv_iadd hx hb dX6_feed_24 ?_
      refine gx_cst (v := 1) (by decide) ?_
      refine lv_sipush (v := 250) hx hb dX6_feed_25 (by decide) ?_
      refine lv_icmp_le (tgt := 38) hx hb dX6_feed_28 (by decide) (fun c_4 => ?_) (fun c_4 => absurd (by decide) c_4)
      refine lv_aload_n hx hb dX6_feed_38 rfl (lv_at hl 0 rfl) ?_
      refine va_get (D := D) (ci := 4) (v := .ref (ad 4)) (C := RX6) (T := TX6) (N := 10) hx hb hT iw_TX6 hown hK.1 hP 0 rfl rfl 3 (by decide) (hT _ wd_274) (fun _ h9 => h9) rfl dX6_feed_39 ?_
      refine lv_iload_n hx hb dX6_feed_42 rfl (lv_at hl 1 rfl) ?_
      refine lv_iload_n hx hb dX6_feed_43 rfl (lv_at hl 2 rfl) ?_
      refine gx_ev (wc := ([((ad 4), .inr (2, [.ref (ad 40), .int 0, .int (-1), .int 0, .int 0, .int 0])), ((ad 40), .inl (k 0, 250, .inl (fun _ => 0)))] : va_W)) (wr := [((ad 0), .inr (4, [.ref (ad 1), .ref (ad 2), .ref (ad 3), .ref (ad 4), .ref (ad 5), .ref (ad 6), .ref (ad 7), .ref (ad 8), .ref (ad 9), .int 0])), ((ad 9), .inl (k 0, 5, .inl (fun _ => 0)))]) (isC := [2, 3]) (isR := [0, 1]) hP hD hS hA rfl rfl (by decide) (by decide) (gx_runV (na := 2) (As := [.int vv, .int 1]) (rest := []) (ci := 2) C hl.1 hK (gx_subP (wc := ([((ad 4), .inr (2, [.ref (ad 40), .int 0, .int (-1), .int 0, .int 0, .int 0])), ((ad 40), .inl (k 0, 250, .inl (fun _ => 0)))] : va_W)) hP [2, 3] rfl) ((hD.sub (ws' := ([((ad 4), .inr (2, [.ref (ad 40), .int 0, .int (-1), .int 0, .int 0, .int 0])), ((ad 40), .inl (k 0, 250, .inl (fun _ => 0)))] : va_W)) [2, 3] (by decide) rfl).weaken (fun _ _ _ _ => trivial)) (k_append1 l D k (ad 4) (ad 40) vv _) gV_RX6_156 (by decide +kernel) rfl rfl ⟨Nat.le_of_ble_eq_true rfl, Nat.le_of_ble_eq_true rfl⟩ rfl rfl rfl rfl (Nat.le_of_ble_eq_true rfl) dX6_feed_44 ⟨Nat.le_of_ble_eq_true rfl, Nat.le_of_ble_eq_true rfl⟩) (fun u_5 H locs h_6 hP hD hS => ?_)
      have hP : va_P D gx_cl [((ad 0), .inr (4, [.ref (ad 1), .ref (ad 2), .ref (ad 3), .ref (ad 4), .ref (ad 5), .ref (ad 6), .ref (ad 7), .ref (ad 8), .ref (ad 9), .int 0])), ((ad 9), .inl (k 0, 5, .inl (fun _ => 0))), ((ad 4), .inr (2, [.ref (ad 40), .int 1, .int (-1), .int 0, .int 0, .int 0]))] H := hP
      have hD : va_D A [((ad 0), .inr (4, [.ref (ad 1), .ref (ad 2), .ref (ad 3), .ref (ad 4), .ref (ad 5), .ref (ad 6), .ref (ad 7), .ref (ad 8), .ref (ad 9), .int 0])), ((ad 9), .inl (k 0, 5, .inl (fun _ => 0))), ((ad 4), .inr (2, [.ref (ad 40), .int 1, .int (-1), .int 0, .int 0, .int 0]))] := hD
      refine lv_aload_n hx hb dX6_feed_47 rfl (lv_at hl 0 rfl) ?_
      refine va_get (D := D) (ci := 4) (v := .ref (ad 4)) (C := RX6) (T := TX6) (N := 10) hx hb hT iw_TX6 hown hK.1 hP 0 rfl rfl 3 (by decide) (hT _ wd_274) (fun _ h9 => h9) rfl dX6_feed_48 ?_
      refine va_get (D := D) (ci := 2) (v := .int 1) (C := RX4) (T := TX4) (N := 6) hx hb hT iw_TX4 hown hK.1 hP 2 rfl rfl 1 (by decide) (hT _ wd_197) (fun _ h9 => h9) rfl dX6_feed_51 ?_
      exact gx_retI C (u := ()) gx_nil gx_noneD hS (by decide) dX6_feed_54
    · refine lv_if_ne (tgt := 16) hx hb dX6_feed_6 (by decide) (fun c_9 => ?_) (fun c_9 => absurd c_9 (by decide))
      refine lv_aload_n hx hb dX6_feed_16 rfl (lv_at hl 0 rfl) ?_
      refine va_get (D := D) (ci := 4) (v := .ref (ad 4)) (C := RX6) (T := TX6) (N := 10) hx hb hT iw_TX6 hown hK.1 hP 0 rfl rfl 3 (by decide) (hT _ wd_274) (fun _ h9 => h9) rfl dX6_feed_17 ?_
      refine va_get (D := D) (ci := 2) (v := .int 0) (C := RX4) (T := TX4) (N := 6) hx hb hT iw_TX4 hown hK.1 hP 2 rfl rfl 1 (by decide) (hT _ wd_197) (fun _ h9 => h9) rfl dX6_feed_20 ?_
      refine lv_iload_n hx hb dX6_feed_23 rfl (lv_at hl 2 rfl) ?_
      refine lv_iadd hx hb dX6_feed_24 ?_
      refine gx_cst (v := 2) (by decide) ?_
      refine lv_sipush (v := 250) hx hb dX6_feed_25 (by decide) ?_
      refine lv_icmp_le (tgt := 38) hx hb dX6_feed_28 (by decide) (fun c_10 => ?_) (fun c_10 => absurd (by decide) c_10)
      refine lv_aload_n hx hb dX6_feed_38 rfl (lv_at hl 0 rfl) ?_
      refine va_get (D := D) (ci := 4) (v := .ref (ad 4)) (C := RX6) (T := TX6) (N := 10) hx hb hT iw_TX6 hown hK.1 hP 0 rfl rfl 3 (by decide) (hT _ wd_274) (fun _ h9 => h9) rfl dX6_feed_39 ?_
      refine lv_iload_n hx hb dX6_feed_42 rfl (lv_at hl 1 rfl) ?_
      refine lv_iload_n hx hb dX6_feed_43 rfl (lv_at hl 2 rfl) ?_
      refine gx_ev (wc := ([((ad 4), .inr (2, [.ref (ad 40), .int 0, .int (-1), .int 0, .int 0, .int 0])), ((ad 40), .inl (k 0, 250, .inl (fun _ => 0)))] : va_W)) (wr := [((ad 0), .inr (4, [.ref (ad 1), .ref (ad 2), .ref (ad 3), .ref (ad 4), .ref (ad 5), .ref (ad 6), .ref (ad 7), .ref (ad 8), .ref (ad 9), .int 0])), ((ad 9), .inl (k 0, 5, .inl (fun _ => 0)))]) (isC := [2, 3]) (isR := [0, 1]) hP hD hS hA rfl rfl (by decide) (by decide) (gx_runV (na := 2) (As := [.int vv, .int 2]) (rest := []) (ci := 2) C hl.1 hK (gx_subP (wc := ([((ad 4), .inr (2, [.ref (ad 40), .int 0, .int (-1), .int 0, .int 0, .int 0])), ((ad 40), .inl (k 0, 250, .inl (fun _ => 0)))] : va_W)) hP [2, 3] rfl) ((hD.sub (ws' := ([((ad 4), .inr (2, [.ref (ad 40), .int 0, .int (-1), .int 0, .int 0, .int 0])), ((ad 40), .inl (k 0, 250, .inl (fun _ => 0)))] : va_W)) [2, 3] (by decide) rfl).weaken (fun _ _ _ _ => trivial)) (k_append2 l D k (ad 4) (ad 40) vv _) gV_RX6_156 (by decide +kernel) rfl rfl ⟨Nat.le_of_ble_eq_true rfl, Nat.le_of_ble_eq_true rfl⟩ rfl rfl rfl rfl (Nat.le_of_ble_eq_true rfl) dX6_feed_44 ⟨Nat.le_of_ble_eq_true rfl, Nat.le_of_ble_eq_true rfl⟩) (fun u_11 H locs h_12 hP hD hS => ?_)
      have hP : va_P D gx_cl [((ad 0), .inr (4, [.ref (ad 1), .ref (ad 2), .ref (ad 3), .ref (ad 4), .ref (ad 5), .ref (ad 6), .ref (ad 7), .ref (ad 8), .ref (ad 9), .int 0])), ((ad 9), .inl (k 0, 5, .inl (fun _ => 0))), ((ad 4), .inr (2, [.ref (ad 40), .int 2, .int (-1), .int 0, .int 0, .int 0]))] H := hP
      have hD : va_D A [((ad 0), .inr (4, [.ref (ad 1), .ref (ad 2), .ref (ad 3), .ref (ad 4), .ref (ad 5), .ref (ad 6), .ref (ad 7), .ref (ad 8), .ref (ad 9), .int 0])), ((ad 9), .inl (k 0, 5, .inl (fun _ => 0))), ((ad 4), .inr (2, [.ref (ad 40), .int 2, .int (-1), .int 0, .int 0, .int 0]))] := hD
      refine lv_aload_n hx hb dX6_feed_47 rfl (lv_at hl 0 rfl) ?_
      refine va_get (D := D) (ci := 4) (v := .ref (ad 4)) (C := RX6) (T := TX6) (N := 10) hx hb hT iw_TX6 hown hK.1 hP 0 rfl rfl 3 (by decide) (hT _ wd_274) (fun _ h9 => h9) rfl dX6_feed_48 ?_
      refine va_get (D := D) (ci := 2) (v := .int 2) (C := RX4) (T := TX4) (N := 6) hx hb hT iw_TX4 hown hK.1 hP 2 rfl rfl 1 (by decide) (hT _ wd_197) (fun _ h9 => h9) rfl dX6_feed_51 ?_
      exact gx_retI C (u := ()) gx_nil gx_noneD hS (by decide) dX6_feed_54
    · refine lv_if_ne (tgt := 16) hx hb dX6_feed_6 (by decide) (fun c_15 => ?_) (fun c_15 => absurd c_15 (by decide))
      refine lv_aload_n hx hb dX6_feed_16 rfl (lv_at hl 0 rfl) ?_
      refine va_get (D := D) (ci := 4) (v := .ref (ad 4)) (C := RX6) (T := TX6) (N := 10) hx hb hT iw_TX6 hown hK.1 hP 0 rfl rfl 3 (by decide) (hT _ wd_274) (fun _ h9 => h9) rfl dX6_feed_17 ?_
      refine va_get (D := D) (ci := 2) (v := .int 0) (C := RX4) (T := TX4) (N := 6) hx hb hT iw_TX4 hown hK.1 hP 2 rfl rfl 1 (by decide) (hT _ wd_197) (fun _ h9 => h9) rfl dX6_feed_20 ?_
      refine lv_iload_n hx hb dX6_feed_23 rfl (lv_at hl 2 rfl) ?_
      refine lv_iadd hx hb dX6_feed_24 ?_
      refine gx_cst (v := 3) (by decide) ?_
      refine lv_sipush (v := 250) hx hb dX6_feed_25 (by decide) ?_
      refine lv_icmp_le (tgt := 38) hx hb dX6_feed_28 (by decide) (fun c_16 => ?_) (fun c_16 => absurd (by decide) c_16)
      refine lv_aload_n hx hb dX6_feed_38 rfl (lv_at hl 0 rfl) ?_
      refine va_get (D := D) (ci := 4) (v := .ref (ad 4)) (C := RX6) (T := TX6) (N := 10) hx hb hT iw_TX6 hown hK.1 hP 0 rfl rfl 3 (by decide) (hT _ wd_274) (fun _ h9 => h9) rfl dX6_feed_39 ?_
      refine lv_iload_n hx hb dX6_feed_42 rfl (lv_at hl 1 rfl) ?_
      refine lv_iload_n hx hb dX6_feed_43 rfl (lv_at hl 2 rfl) ?_
      refine gx_ev (wc := ([((ad 4), .inr (2, [.ref (ad 40), .int 0, .int (-1), .int 0, .int 0, .int 0])), ((ad 40), .inl (k 0, 250, .inl (fun _ => 0)))] : va_W)) (wr := [((ad 0), .inr (4, [.ref (ad 1), .ref (ad 2), .ref (ad 3), .ref (ad 4), .ref (ad 5), .ref (ad 6), .ref (ad 7), .ref (ad 8), .ref (ad 9), .int 0])), ((ad 9), .inl (k 0, 5, .inl (fun _ => 0)))]) (isC := [2, 3]) (isR := [0, 1]) hP hD hS hA rfl rfl (by decide) (by decide) (gx_runV (na := 2) (As := [.int vv, .int 3]) (rest := []) (ci := 2) C hl.1 hK (gx_subP (wc := ([((ad 4), .inr (2, [.ref (ad 40), .int 0, .int (-1), .int 0, .int 0, .int 0])), ((ad 40), .inl (k 0, 250, .inl (fun _ => 0)))] : va_W)) hP [2, 3] rfl) ((hD.sub (ws' := ([((ad 4), .inr (2, [.ref (ad 40), .int 0, .int (-1), .int 0, .int 0, .int 0])), ((ad 40), .inl (k 0, 250, .inl (fun _ => 0)))] : va_W)) [2, 3] (by decide) rfl).weaken (fun _ _ _ _ => trivial)) (k_append3 l D k (ad 4) (ad 40) vv _) gV_RX6_156 (by decide +kernel) rfl rfl ⟨Nat.le_of_ble_eq_true rfl, Nat.le_of_ble_eq_true rfl⟩ rfl rfl rfl rfl (Nat.le_of_ble_eq_true rfl) dX6_feed_44 ⟨Nat.le_of_ble_eq_true rfl, Nat.le_of_ble_eq_true rfl⟩) (fun u_17 H locs h_18 hP hD hS => ?_)
      have hP : va_P D gx_cl [((ad 0), .inr (4, [.ref (ad 1), .ref (ad 2), .ref (ad 3), .ref (ad 4), .ref (ad 5), .ref (ad 6), .ref (ad 7), .ref (ad 8), .ref (ad 9), .int 0])), ((ad 9), .inl (k 0, 5, .inl (fun _ => 0))), ((ad 4), .inr (2, [.ref (ad 40), .int 3, .int (-1), .int 0, .int 0, .int 0]))] H := hP
      have hD : va_D A [((ad 0), .inr (4, [.ref (ad 1), .ref (ad 2), .ref (ad 3), .ref (ad 4), .ref (ad 5), .ref (ad 6), .ref (ad 7), .ref (ad 8), .ref (ad 9), .int 0])), ((ad 9), .inl (k 0, 5, .inl (fun _ => 0))), ((ad 4), .inr (2, [.ref (ad 40), .int 3, .int (-1), .int 0, .int 0, .int 0]))] := hD
      refine lv_aload_n hx hb dX6_feed_47 rfl (lv_at hl 0 rfl) ?_
      refine va_get (D := D) (ci := 4) (v := .ref (ad 4)) (C := RX6) (T := TX6) (N := 10) hx hb hT iw_TX6 hown hK.1 hP 0 rfl rfl 3 (by decide) (hT _ wd_274) (fun _ h9 => h9) rfl dX6_feed_48 ?_
      refine va_get (D := D) (ci := 2) (v := .int 3) (C := RX4) (T := TX4) (N := 6) hx hb hT iw_TX4 hown hK.1 hP 2 rfl rfl 1 (by decide) (hT _ wd_197) (fun _ h9 => h9) rfl dX6_feed_51 ?_
      exact gx_retI C (u := ()) gx_nil gx_noneD hS (by decide) dX6_feed_54
    · refine lv_if_ne (tgt := 16) hx hb dX6_feed_6 (by decide) (fun c_21 => ?_) (fun c_21 => absurd c_21 (by decide))
      refine lv_aload_n hx hb dX6_feed_16 rfl (lv_at hl 0 rfl) ?_
      refine va_get (D := D) (ci := 4) (v := .ref (ad 4)) (C := RX6) (T := TX6) (N := 10) hx hb hT iw_TX6 hown hK.1 hP 0 rfl rfl 3 (by decide) (hT _ wd_274) (fun _ h9 => h9) rfl dX6_feed_17 ?_
      refine va_get (D := D) (ci := 2) (v := .int 0) (C := RX4) (T := TX4) (N := 6) hx hb hT iw_TX4 hown hK.1 hP 2 rfl rfl 1 (by decide) (hT _ wd_197) (fun _ h9 => h9) rfl dX6_feed_20 ?_
      refine lv_iload_n hx hb dX6_feed_23 rfl (lv_at hl 2 rfl) ?_
      refine lv_iadd hx hb dX6_feed_24 ?_
      refine gx_cst (v := 4) (by decide) ?_
      refine lv_sipush (v := 250) hx hb dX6_feed_25 (by decide) ?_
      refine lv_icmp_le (tgt := 38) hx hb dX6_feed_28 (by decide) (fun c_22 => ?_) (fun c_22 => absurd (by decide) c_22)
      refine lv_aload_n hx hb dX6_feed_38 rfl (lv_at hl 0 rfl) ?_
      refine va_get (D := D) (ci := 4) (v := .ref (ad 4)) (C := RX6) (T := TX6) (N := 10) hx hb hT iw_TX6 hown hK.1 hP 0 rfl rfl 3 (by decide) (hT _ wd_274) (fun _ h9 => h9) rfl dX6_feed_39 ?_
      refine lv_iload_n hx hb dX6_feed_42 rfl (lv_at hl 1 rfl) ?_
      refine lv_iload_n hx hb dX6_feed_43 rfl (lv_at hl 2 rfl) ?_
      refine gx_ev (wc := ([((ad 4), .inr (2, [.ref (ad 40), .int 0, .int (-1), .int 0, .int 0, .int 0])), ((ad 40), .inl (k 0, 250, .inl (fun _ => 0)))] : va_W)) (wr := [((ad 0), .inr (4, [.ref (ad 1), .ref (ad 2), .ref (ad 3), .ref (ad 4), .ref (ad 5), .ref (ad 6), .ref (ad 7), .ref (ad 8), .ref (ad 9), .int 0])), ((ad 9), .inl (k 0, 5, .inl (fun _ => 0)))]) (isC := [2, 3]) (isR := [0, 1]) hP hD hS hA rfl rfl (by decide) (by decide) (gx_runV (na := 2) (As := [.int vv, .int 4]) (rest := []) (ci := 2) C hl.1 hK (gx_subP (wc := ([((ad 4), .inr (2, [.ref (ad 40), .int 0, .int (-1), .int 0, .int 0, .int 0])), ((ad 40), .inl (k 0, 250, .inl (fun _ => 0)))] : va_W)) hP [2, 3] rfl) ((hD.sub (ws' := ([((ad 4), .inr (2, [.ref (ad 40), .int 0, .int (-1), .int 0, .int 0, .int 0])), ((ad 40), .inl (k 0, 250, .inl (fun _ => 0)))] : va_W)) [2, 3] (by decide) rfl).weaken (fun _ _ _ _ => trivial)) (k_append4 l D k (ad 4) (ad 40) vv _) gV_RX6_156 (by decide +kernel) rfl rfl ⟨Nat.le_of_ble_eq_true rfl, Nat.le_of_ble_eq_true rfl⟩ rfl rfl rfl rfl (Nat.le_of_ble_eq_true rfl) dX6_feed_44 ⟨Nat.le_of_ble_eq_true rfl, Nat.le_of_ble_eq_true rfl⟩) (fun u_23 H locs h_24 hP hD hS => ?_)
      have hP : va_P D gx_cl [((ad 0), .inr (4, [.ref (ad 1), .ref (ad 2), .ref (ad 3), .ref (ad 4), .ref (ad 5), .ref (ad 6), .ref (ad 7), .ref (ad 8), .ref (ad 9), .int 0])), ((ad 9), .inl (k 0, 5, .inl (fun _ => 0))), ((ad 4), .inr (2, [.ref (ad 40), .int 4, .int (-1), .int 0, .int 0, .int 0]))] H := hP
      have hD : va_D A [((ad 0), .inr (4, [.ref (ad 1), .ref (ad 2), .ref (ad 3), .ref (ad 4), .ref (ad 5), .ref (ad 6), .ref (ad 7), .ref (ad 8), .ref (ad 9), .int 0])), ((ad 9), .inl (k 0, 5, .inl (fun _ => 0))), ((ad 4), .inr (2, [.ref (ad 40), .int 4, .int (-1), .int 0, .int 0, .int 0]))] := hD
      refine lv_aload_n hx hb dX6_feed_47 rfl (lv_at hl 0 rfl) ?_
      refine va_get (D := D) (ci := 4) (v := .ref (ad 4)) (C := RX6) (T := TX6) (N := 10) hx hb hT iw_TX6 hown hK.1 hP 0 rfl rfl 3 (by decide) (hT _ wd_274) (fun _ h9 => h9) rfl dX6_feed_48 ?_
      refine va_get (D := D) (ci := 2) (v := .int 4) (C := RX4) (T := TX4) (N := 6) hx hb hT iw_TX4 hown hK.1 hP 2 rfl rfl 1 (by decide) (hT _ wd_197) (fun _ h9 => h9) rfl dX6_feed_51 ?_
      exact gx_retI C (u := ()) gx_nil gx_noneD hS (by decide) dX6_feed_54
  · refine lv_if_ne (tgt := 16) hx hb dX6_feed_6 (by decide) (fun c_27 => absurd (by decide) c_27) (fun c_27 => ?_)
    refine lv_aload_n hx hb dX6_feed_9 rfl (lv_at hl 0 rfl) ?_
    refine lv_bipush (v := (-2)) hx hb dX6_feed_10 (by decide) ?_
    refine gx_ei (wc := ([((ad 0), .inr (4, [.ref (ad 1), .ref (ad 2), .ref (ad 3), .ref (ad 4), .ref (ad 5), .ref (ad 6), .ref (ad 7), .ref (ad 8), .ref (ad 9), .int 0])), ((ad 9), .inl (k 0, 5, .inl (fun _ => 0)))] : va_W)) (wr := [((ad 4), .inr (2, [.ref (ad 40), .int 0, .int (-1), .int 0, .int 0, .int 0])), ((ad 40), .inl (k 0, 250, .inl (fun _ => 0)))]) (isC := [0, 1]) (isR := [2, 3]) hP hD hS hA rfl rfl (by decide) (by decide) (gx_runV (na := 1) (As := [.int (-2)]) (rest := []) (ci := 4) C hl.1 hK (gx_subP (wc := ([((ad 0), .inr (4, [.ref (ad 1), .ref (ad 2), .ref (ad 3), .ref (ad 4), .ref (ad 5), .ref (ad 6), .ref (ad 7), .ref (ad 8), .ref (ad 9), .int 0])), ((ad 9), .inl (k 0, 5, .inl (fun _ => 0)))] : va_W)) hP [0, 1] rfl) ((hD.sub (ws' := ([((ad 0), .inr (4, [.ref (ad 1), .ref (ad 2), .ref (ad 3), .ref (ad 4), .ref (ad 5), .ref (ad 6), .ref (ad 7), .ref (ad 8), .ref (ad 9), .int 0])), ((ad 9), .inl (k 0, 5, .inl (fun _ => 0)))] : va_W)) [0, 1] (by decide) rfl).weaken (fun _ _ _ _ => trivial)) (k_refuse2 l D k ad _) gV_RX6_61 (by decide +kernel) rfl rfl ⟨Nat.le_of_ble_eq_true rfl, Nat.le_of_ble_eq_true rfl⟩ rfl rfl rfl rfl (Nat.le_of_ble_eq_true rfl) dX6_feed_12 ⟨Nat.le_of_ble_eq_true rfl, Nat.le_of_ble_eq_true rfl⟩) (fun r_30 u_28 H locs h_29 hP hD hS => ?_)
    have h_29 : r_30 = -2 := h_29
    have hP : va_P D gx_cl [((ad 4), .inr (2, [.ref (ad 40), .int 0, .int (-1), .int 0, .int 0, .int 0])), ((ad 40), .inl (k 0, 250, .inl (fun _ => 0)))] H := hP
    have hD : va_D A [((ad 4), .inr (2, [.ref (ad 40), .int 0, .int (-1), .int 0, .int 0, .int 0])), ((ad 40), .inl (k 0, 250, .inl (fun _ => 0)))] := hD
    have eh_29 := h_29
    subst eh_29
    exact gx_retI C (u := ()) gx_nil gx_noneD hS (by simp [gs_feed, c_1]) dX6_feed_15
set_option maxHeartbeats 4000000 in
set_option maxRecDepth 100000 in
theorem x_wipe (l : Launch) (D : va_G) (k : Nat → ClassId) (ad : Nat → Nat) (sz : Nat) : Met l yX6_wipe (.code yX6_wipe cX6_wipe 2 (some .int) :: gx_T) ({ frames := 0, cells := 0, slots := 0, locals := 0 }) (gx_Pre D k [.ref (ad 0)] ([((ad 0), .inr (4, [.ref (ad 1), .ref (ad 2), .ref (ad 3), .ref (ad 4), .ref (ad 5), .ref (ad 6), .ref (ad 7), .ref (ad 8), .ref (ad 9), .int 0])), ((ad 4), .inr (2, [.ref (ad 40), .int 0, .int (-1), .int 0, .int 0, .int 0]))]) sz) (gx_Qi D (fun (r : Int32) (u : Unit) => r = 0) (fun (u : Unit) => ([] : va_W)) (va_A ([((ad 0), .inr (4, [.ref (ad 1), .ref (ad 2), .ref (ad 3), .ref (ad 4), .ref (ad 5), .ref (ad 6), .ref (ad 7), .ref (ad 8), .ref (ad 9), .int 0])), ((ad 4), .inr (2, [.ref (ad 40), .int 0, .int (-1), .int 0, .int 0, .int 0]))]) sz)) 0 0 (va_A ([((ad 0), .inr (4, [.ref (ad 1), .ref (ad 2), .ref (ad 3), .ref (ad 4), .ref (ad 5), .ref (ad 6), .ref (ad 7), .ref (ad 8), .ref (ad 9), .int 0])), ((ad 4), .inr (2, [.ref (ad 40), .int 0, .int (-1), .int 0, .int 0, .int 0]))]) sz) := by
  refine gx_metE (Qc := fun A => gx_Qi D (fun (r : Int32) (u : Unit) => r = 0) (fun (u : Unit) => ([] : va_W)) A) (by decide) (Nat.le_of_ble_eq_true rfl) ?_
  intro p e s m below meth c A ls C hA hP hD hK hS hl
  obtain ⟨hx, hb, hr, hml, hown, hT, hlk, hin⟩ := id C
  have hown : s.vm.findClass RX6 = some m.cls := hown
  have hl : lv_has ls 2 [(0, .ref (ad 0))] := hl
  refine lv_aload_n hx hb dX6_wipe_0 rfl (lv_at hl 0 rfl) ?_
  refine va_get (D := D) (ci := 4) (v := .ref (ad 4)) (C := RX6) (T := TX6) (N := 10) hx hb hT iw_TX6 hown hK.1 hP 0 rfl rfl 3 (by decide) (hT _ wd_274) (fun _ h9 => h9) rfl dX6_wipe_1 ?_
  refine va_get (D := D) (ci := 2) (v := .int 0) (C := RX4) (T := TX4) (N := 6) hx hb hT iw_TX4 hown hK.1 hP 1 rfl rfl 1 (by decide) (hT _ wd_197) (fun _ h9 => h9) rfl dX6_wipe_4 ?_
  refine lv_istore_n (lv' := [(1, .int 0), (0, .ref (ad 0))]) hx hb dX6_wipe_7 rfl hl (by decide) rfl (fun ls hl => ?_)
  refine lv_aload_n hx hb dX6_wipe_8 rfl (lv_at hl 1 rfl) ?_
  refine va_get (D := D) (ci := 4) (v := .ref (ad 4)) (C := RX6) (T := TX6) (N := 10) hx hb hT iw_TX6 hown hK.1 hP 0 rfl rfl 3 (by decide) (hT _ wd_274) (fun _ h9 => h9) rfl dX6_wipe_9 ?_
  refine lv_iconst (v := 0) hx hb dX6_wipe_12 (by decide) ?_
  refine va_put (D := D) (ci := 2) (v := .int 0) (ty := .int) (C := RX4) (T := TX4) (N := 6) hx hb hT iw_TX4 tyX4 tyX4_ok nmX4 hown hK.1 hP hD hS 1 rfl rfl 1 (by decide) (hT _ wd_197) (fun _ h9 => h9) rfl (by decide +kernel) rfl rfl (Nat.le_of_ble_eq_true rfl) dX6_wipe_13 (fun H locs hP hD hS => ?_)
  have hP : va_P D gx_cl [((ad 0), .inr (4, [.ref (ad 1), .ref (ad 2), .ref (ad 3), .ref (ad 4), .ref (ad 5), .ref (ad 6), .ref (ad 7), .ref (ad 8), .ref (ad 9), .int 0])), ((ad 4), .inr (2, [.ref (ad 40), .int 0, .int (-1), .int 0, .int 0, .int 0]))] H := hP
  have hD : va_D A [((ad 0), .inr (4, [.ref (ad 1), .ref (ad 2), .ref (ad 3), .ref (ad 4), .ref (ad 5), .ref (ad 6), .ref (ad 7), .ref (ad 8), .ref (ad 9), .int 0])), ((ad 4), .inr (2, [.ref (ad 40), .int 0, .int (-1), .int 0, .int 0, .int 0]))] := hD
  refine lv_iload_n hx hb dX6_wipe_16 rfl (lv_at hl 0 rfl) ?_
  exact gx_retI C (u := ()) gx_nil gx_noneD hS (rfl) dX6_wipe_17
set_option maxHeartbeats 4000000 in
set_option maxRecDepth 100000 in
theorem x_land (l : Launch) (D : va_G) (k : Nat → ClassId) (ad : Nat → Nat) (wn : Nat → Int32) (wt : Nat → Int32) (sz : Nat) : Met l yX6_land (.code yX6_land cX6_land 3 (some .int) :: gx_T) ({ frames := 3, cells := 0, slots := 0, locals := 81 }) (gx_Pre D k [.ref (ad 0)] ([((ad 0), .inr (4, [.ref (ad 1), .ref (ad 2), .ref (ad 3), .ref (ad 4), .ref (ad 5), .ref (ad 6), .ref (ad 7), .ref (ad 8), .ref (ad 9), .int 0])), ((ad 1), .inr (0, [.ref (ad 10), .ref (ad 11), .ref (ad 12), .ref (ad 13), .ref (ad 14), .ref (ad 15), .ref (ad 16), .ref (ad 17), .ref (ad 18), .int 0, .int 0, .int 0, .int 0, .int 1, .int 0, .int 0, .int 0])), ((ad 3), .inr (0, [.ref (ad 30), .ref (ad 31), .ref (ad 32), .ref (ad 33), .ref (ad 34), .ref (ad 35), .ref (ad 36), .ref (ad 37), .ref (ad 38), .int 0, .int 0, .int 0, .int 0, .int 1, .int 0, .int 0, .int 0])), ((ad 4), .inr (2, [.ref (ad 40), .int 0, .int (-1), .int 0, .int 0, .int 0])), ((ad 9), .inl (k 0, 5, .inl (fun _ => 0))), ((ad 10), .inl (k 0, 16, .inl (fun _ => 0))), ((ad 11), .inl (k 0, 16, .inl (fun _ => 0))), ((ad 12), .inl (k 0, 16, .inl (fun _ => 0))), ((ad 13), .inl (k 0, 16, .inl (fun _ => 0))), ((ad 14), .inl (k 0, 6, .inl (fun _ => 0))), ((ad 15), .inl (k 0, 6, .inl (fun _ => 0))), ((ad 16), .inl (k 0, 6, .inl (fun _ => 0))), ((ad 17), .inl (k 0, 6, .inl (fun _ => 0))), ((ad 18), .inl (k 0, 96, .inl wn)), ((ad 30), .inl (k 0, 16, .inl (fun _ => 0))), ((ad 31), .inl (k 0, 16, .inl (fun _ => 0))), ((ad 32), .inl (k 0, 16, .inl (fun _ => 0))), ((ad 33), .inl (k 0, 16, .inl (fun _ => 0))), ((ad 34), .inl (k 0, 6, .inl (fun _ => 0))), ((ad 35), .inl (k 0, 6, .inl (fun _ => 0))), ((ad 36), .inl (k 0, 6, .inl (fun _ => 0))), ((ad 37), .inl (k 0, 6, .inl (fun _ => 0))), ((ad 38), .inl (k 0, 96, .inl wt))]) sz) (gx_Qi D (fun (r : Int32) (u : Unit) => r = -20) (fun (u : Unit) => ([] : va_W)) (va_A ([((ad 0), .inr (4, [.ref (ad 1), .ref (ad 2), .ref (ad 3), .ref (ad 4), .ref (ad 5), .ref (ad 6), .ref (ad 7), .ref (ad 8), .ref (ad 9), .int 0])), ((ad 1), .inr (0, [.ref (ad 10), .ref (ad 11), .ref (ad 12), .ref (ad 13), .ref (ad 14), .ref (ad 15), .ref (ad 16), .ref (ad 17), .ref (ad 18), .int 0, .int 0, .int 0, .int 0, .int 1, .int 0, .int 0, .int 0])), ((ad 3), .inr (0, [.ref (ad 30), .ref (ad 31), .ref (ad 32), .ref (ad 33), .ref (ad 34), .ref (ad 35), .ref (ad 36), .ref (ad 37), .ref (ad 38), .int 0, .int 0, .int 0, .int 0, .int 1, .int 0, .int 0, .int 0])), ((ad 4), .inr (2, [.ref (ad 40), .int 0, .int (-1), .int 0, .int 0, .int 0])), ((ad 9), .inl (k 0, 5, .inl (fun _ => 0))), ((ad 10), .inl (k 0, 16, .inl (fun _ => 0))), ((ad 11), .inl (k 0, 16, .inl (fun _ => 0))), ((ad 12), .inl (k 0, 16, .inl (fun _ => 0))), ((ad 13), .inl (k 0, 16, .inl (fun _ => 0))), ((ad 14), .inl (k 0, 6, .inl (fun _ => 0))), ((ad 15), .inl (k 0, 6, .inl (fun _ => 0))), ((ad 16), .inl (k 0, 6, .inl (fun _ => 0))), ((ad 17), .inl (k 0, 6, .inl (fun _ => 0))), ((ad 18), .inl (k 0, 96, .inl wn)), ((ad 30), .inl (k 0, 16, .inl (fun _ => 0))), ((ad 31), .inl (k 0, 16, .inl (fun _ => 0))), ((ad 32), .inl (k 0, 16, .inl (fun _ => 0))), ((ad 33), .inl (k 0, 16, .inl (fun _ => 0))), ((ad 34), .inl (k 0, 6, .inl (fun _ => 0))), ((ad 35), .inl (k 0, 6, .inl (fun _ => 0))), ((ad 36), .inl (k 0, 6, .inl (fun _ => 0))), ((ad 37), .inl (k 0, 6, .inl (fun _ => 0))), ((ad 38), .inl (k 0, 96, .inl wt))]) sz)) 0 0 (va_A ([((ad 0), .inr (4, [.ref (ad 1), .ref (ad 2), .ref (ad 3), .ref (ad 4), .ref (ad 5), .ref (ad 6), .ref (ad 7), .ref (ad 8), .ref (ad 9), .int 0])), ((ad 1), .inr (0, [.ref (ad 10), .ref (ad 11), .ref (ad 12), .ref (ad 13), .ref (ad 14), .ref (ad 15), .ref (ad 16), .ref (ad 17), .ref (ad 18), .int 0, .int 0, .int 0, .int 0, .int 1, .int 0, .int 0, .int 0])), ((ad 3), .inr (0, [.ref (ad 30), .ref (ad 31), .ref (ad 32), .ref (ad 33), .ref (ad 34), .ref (ad 35), .ref (ad 36), .ref (ad 37), .ref (ad 38), .int 0, .int 0, .int 0, .int 0, .int 1, .int 0, .int 0, .int 0])), ((ad 4), .inr (2, [.ref (ad 40), .int 0, .int (-1), .int 0, .int 0, .int 0])), ((ad 9), .inl (k 0, 5, .inl (fun _ => 0))), ((ad 10), .inl (k 0, 16, .inl (fun _ => 0))), ((ad 11), .inl (k 0, 16, .inl (fun _ => 0))), ((ad 12), .inl (k 0, 16, .inl (fun _ => 0))), ((ad 13), .inl (k 0, 16, .inl (fun _ => 0))), ((ad 14), .inl (k 0, 6, .inl (fun _ => 0))), ((ad 15), .inl (k 0, 6, .inl (fun _ => 0))), ((ad 16), .inl (k 0, 6, .inl (fun _ => 0))), ((ad 17), .inl (k 0, 6, .inl (fun _ => 0))), ((ad 18), .inl (k 0, 96, .inl wn)), ((ad 30), .inl (k 0, 16, .inl (fun _ => 0))), ((ad 31), .inl (k 0, 16, .inl (fun _ => 0))), ((ad 32), .inl (k 0, 16, .inl (fun _ => 0))), ((ad 33), .inl (k 0, 16, .inl (fun _ => 0))), ((ad 34), .inl (k 0, 6, .inl (fun _ => 0))), ((ad 35), .inl (k 0, 6, .inl (fun _ => 0))), ((ad 36), .inl (k 0, 6, .inl (fun _ => 0))), ((ad 37), .inl (k 0, 6, .inl (fun _ => 0))), ((ad 38), .inl (k 0, 96, .inl wt))]) sz) := by
  refine gx_metE (Qc := fun A => gx_Qi D (fun (r : Int32) (u : Unit) => r = -20) (fun (u : Unit) => ([] : va_W)) A) (by decide) (Nat.le_of_ble_eq_true rfl) ?_
  intro p e s m below meth c A ls C hA hP hD hK hS hl
  obtain ⟨hx, hb, hr, hml, hown, hT, hlk, hin⟩ := id C
  have hown : s.vm.findClass RX6 = some m.cls := hown
  have hl : lv_has ls 3 [(0, .ref (ad 0))] := hl
  refine lv_aload_n hx hb dX6_land_0 rfl (lv_at hl 0 rfl) ?_
  refine va_get (D := D) (ci := 4) (v := .ref (ad 3)) (C := RX6) (T := TX6) (N := 10) hx hb hT iw_TX6 hown hK.1 hP 0 rfl rfl 2 (by decide) (hT _ wd_273) (fun _ h9 => h9) rfl dX6_land_1 ?_
  refine lv_aload_n hx hb dX6_land_4 rfl (lv_at hl 0 rfl) ?_
  refine va_get (D := D) (ci := 4) (v := .ref (ad 1)) (C := RX6) (T := TX6) (N := 10) hx hb hT iw_TX6 hown hK.1 hP 0 rfl rfl 0 (by decide) (hT _ wd_271) (fun _ h9 => h9) rfl dX6_land_5 ?_
  refine gx_ev (wc := ([((ad 3), .inr (0, [.ref (ad 30), .ref (ad 31), .ref (ad 32), .ref (ad 33), .ref (ad 34), .ref (ad 35), .ref (ad 36), .ref (ad 37), .ref (ad 38), .int 0, .int 0, .int 0, .int 0, .int 1, .int 0, .int 0, .int 0])), ((ad 1), .inr (0, [.ref (ad 10), .ref (ad 11), .ref (ad 12), .ref (ad 13), .ref (ad 14), .ref (ad 15), .ref (ad 16), .ref (ad 17), .ref (ad 18), .int 0, .int 0, .int 0, .int 0, .int 1, .int 0, .int 0, .int 0])), ((ad 30), .inl (k 0, 16, .inl (fun _ => 0))), ((ad 31), .inl (k 0, 16, .inl (fun _ => 0))), ((ad 32), .inl (k 0, 16, .inl (fun _ => 0))), ((ad 33), .inl (k 0, 16, .inl (fun _ => 0))), ((ad 34), .inl (k 0, 6, .inl (fun _ => 0))), ((ad 35), .inl (k 0, 6, .inl (fun _ => 0))), ((ad 36), .inl (k 0, 6, .inl (fun _ => 0))), ((ad 37), .inl (k 0, 6, .inl (fun _ => 0))), ((ad 38), .inl (k 0, 96, .inl wt)), ((ad 10), .inl (k 0, 16, .inl (fun _ => 0))), ((ad 11), .inl (k 0, 16, .inl (fun _ => 0))), ((ad 12), .inl (k 0, 16, .inl (fun _ => 0))), ((ad 13), .inl (k 0, 16, .inl (fun _ => 0))), ((ad 14), .inl (k 0, 6, .inl (fun _ => 0))), ((ad 15), .inl (k 0, 6, .inl (fun _ => 0))), ((ad 16), .inl (k 0, 6, .inl (fun _ => 0))), ((ad 17), .inl (k 0, 6, .inl (fun _ => 0))), ((ad 18), .inl (k 0, 96, .inl wn))] : va_W)) (wr := [((ad 0), .inr (4, [.ref (ad 1), .ref (ad 2), .ref (ad 3), .ref (ad 4), .ref (ad 5), .ref (ad 6), .ref (ad 7), .ref (ad 8), .ref (ad 9), .int 0])), ((ad 4), .inr (2, [.ref (ad 40), .int 0, .int (-1), .int 0, .int 0, .int 0])), ((ad 9), .inl (k 0, 5, .inl (fun _ => 0)))]) (isC := [2, 1, 14, 15, 16, 17, 18, 19, 20, 21, 22, 5, 6, 7, 8, 9, 10, 11, 12, 13]) (isR := [0, 3, 4]) hP hD hS hA rfl rfl (by decide) (by decide) (gx_runV (na := 1) (As := [.ref (ad 1)]) (rest := []) (ci := 0) C hl.1 hK (gx_subP (wc := ([((ad 3), .inr (0, [.ref (ad 30), .ref (ad 31), .ref (ad 32), .ref (ad 33), .ref (ad 34), .ref (ad 35), .ref (ad 36), .ref (ad 37), .ref (ad 38), .int 0, .int 0, .int 0, .int 0, .int 1, .int 0, .int 0, .int 0])), ((ad 1), .inr (0, [.ref (ad 10), .ref (ad 11), .ref (ad 12), .ref (ad 13), .ref (ad 14), .ref (ad 15), .ref (ad 16), .ref (ad 17), .ref (ad 18), .int 0, .int 0, .int 0, .int 0, .int 1, .int 0, .int 0, .int 0])), ((ad 30), .inl (k 0, 16, .inl (fun _ => 0))), ((ad 31), .inl (k 0, 16, .inl (fun _ => 0))), ((ad 32), .inl (k 0, 16, .inl (fun _ => 0))), ((ad 33), .inl (k 0, 16, .inl (fun _ => 0))), ((ad 34), .inl (k 0, 6, .inl (fun _ => 0))), ((ad 35), .inl (k 0, 6, .inl (fun _ => 0))), ((ad 36), .inl (k 0, 6, .inl (fun _ => 0))), ((ad 37), .inl (k 0, 6, .inl (fun _ => 0))), ((ad 38), .inl (k 0, 96, .inl wt)), ((ad 10), .inl (k 0, 16, .inl (fun _ => 0))), ((ad 11), .inl (k 0, 16, .inl (fun _ => 0))), ((ad 12), .inl (k 0, 16, .inl (fun _ => 0))), ((ad 13), .inl (k 0, 16, .inl (fun _ => 0))), ((ad 14), .inl (k 0, 6, .inl (fun _ => 0))), ((ad 15), .inl (k 0, 6, .inl (fun _ => 0))), ((ad 16), .inl (k 0, 6, .inl (fun _ => 0))), ((ad 17), .inl (k 0, 6, .inl (fun _ => 0))), ((ad 18), .inl (k 0, 96, .inl wn))] : va_W)) hP [2, 1, 14, 15, 16, 17, 18, 19, 20, 21, 22, 5, 6, 7, 8, 9, 10, 11, 12, 13] rfl) ((hD.sub (ws' := ([((ad 3), .inr (0, [.ref (ad 30), .ref (ad 31), .ref (ad 32), .ref (ad 33), .ref (ad 34), .ref (ad 35), .ref (ad 36), .ref (ad 37), .ref (ad 38), .int 0, .int 0, .int 0, .int 0, .int 1, .int 0, .int 0, .int 0])), ((ad 1), .inr (0, [.ref (ad 10), .ref (ad 11), .ref (ad 12), .ref (ad 13), .ref (ad 14), .ref (ad 15), .ref (ad 16), .ref (ad 17), .ref (ad 18), .int 0, .int 0, .int 0, .int 0, .int 1, .int 0, .int 0, .int 0])), ((ad 30), .inl (k 0, 16, .inl (fun _ => 0))), ((ad 31), .inl (k 0, 16, .inl (fun _ => 0))), ((ad 32), .inl (k 0, 16, .inl (fun _ => 0))), ((ad 33), .inl (k 0, 16, .inl (fun _ => 0))), ((ad 34), .inl (k 0, 6, .inl (fun _ => 0))), ((ad 35), .inl (k 0, 6, .inl (fun _ => 0))), ((ad 36), .inl (k 0, 6, .inl (fun _ => 0))), ((ad 37), .inl (k 0, 6, .inl (fun _ => 0))), ((ad 38), .inl (k 0, 96, .inl wt)), ((ad 10), .inl (k 0, 16, .inl (fun _ => 0))), ((ad 11), .inl (k 0, 16, .inl (fun _ => 0))), ((ad 12), .inl (k 0, 16, .inl (fun _ => 0))), ((ad 13), .inl (k 0, 16, .inl (fun _ => 0))), ((ad 14), .inl (k 0, 6, .inl (fun _ => 0))), ((ad 15), .inl (k 0, 6, .inl (fun _ => 0))), ((ad 16), .inl (k 0, 6, .inl (fun _ => 0))), ((ad 17), .inl (k 0, 6, .inl (fun _ => 0))), ((ad 18), .inl (k 0, 96, .inl wn))] : va_W)) [2, 1, 14, 15, 16, 17, 18, 19, 20, 21, 22, 5, 6, 7, 8, 9, 10, 11, 12, 13] (by decide) rfl).weaken (fun _ _ _ _ => trivial)) (k_become l D k (ad 3) (ad 30) (ad 31) (ad 32) (ad 33) (ad 34) (ad 35) (ad 36) (ad 37) (ad 38) (ad 1) (ad 10) (ad 11) (ad 12) (ad 13) (ad 14) (ad 15) (ad 16) (ad 17) (ad 18) wt wn _) gV_RX6_159 (by decide +kernel) rfl rfl ⟨Nat.le_of_ble_eq_true rfl, Nat.le_of_ble_eq_true rfl⟩ rfl rfl rfl rfl (Nat.le_of_ble_eq_true rfl) dX6_land_8 ⟨Nat.le_of_ble_eq_true rfl, Nat.le_of_ble_eq_true rfl⟩) (fun u_1 H locs h_2 hP hD hS => ?_)
  have hP : va_P D gx_cl [((ad 0), .inr (4, [.ref (ad 1), .ref (ad 2), .ref (ad 3), .ref (ad 4), .ref (ad 5), .ref (ad 6), .ref (ad 7), .ref (ad 8), .ref (ad 9), .int 0])), ((ad 4), .inr (2, [.ref (ad 40), .int 0, .int (-1), .int 0, .int 0, .int 0])), ((ad 9), .inl (k 0, 5, .inl (fun _ => 0))), ((ad 3), .inr (0, [.ref (ad 30), .ref (ad 31), .ref (ad 32), .ref (ad 33), .ref (ad 34), .ref (ad 35), .ref (ad 36), .ref (ad 37), .ref (ad 38), .int 0, .int 0, .int 0, .int 0, .int 1, .int 0, .int 0, .int 0]))] H := hP
  have hD : va_D A [((ad 0), .inr (4, [.ref (ad 1), .ref (ad 2), .ref (ad 3), .ref (ad 4), .ref (ad 5), .ref (ad 6), .ref (ad 7), .ref (ad 8), .ref (ad 9), .int 0])), ((ad 4), .inr (2, [.ref (ad 40), .int 0, .int (-1), .int 0, .int 0, .int 0])), ((ad 9), .inl (k 0, 5, .inl (fun _ => 0))), ((ad 3), .inr (0, [.ref (ad 30), .ref (ad 31), .ref (ad 32), .ref (ad 33), .ref (ad 34), .ref (ad 35), .ref (ad 36), .ref (ad 37), .ref (ad 38), .int 0, .int 0, .int 0, .int 0, .int 1, .int 0, .int 0, .int 0]))] := hD
  refine lv_aload_n hx hb dX6_land_11 rfl (lv_at hl 0 rfl) ?_
  refine va_get (D := D) (ci := 4) (v := .ref (ad 4)) (C := RX6) (T := TX6) (N := 10) hx hb hT iw_TX6 hown hK.1 hP 0 rfl rfl 3 (by decide) (hT _ wd_274) (fun _ h9 => h9) rfl dX6_land_12 ?_
  refine lv_aload_n hx hb dX6_land_15 rfl (lv_at hl 0 rfl) ?_
  refine va_get (D := D) (ci := 4) (v := .ref (ad 3)) (C := RX6) (T := TX6) (N := 10) hx hb hT iw_TX6 hown hK.1 hP 0 rfl rfl 2 (by decide) (hT _ wd_273) (fun _ h9 => h9) rfl dX6_land_16 ?_
  refine gx_ei (wc := ([((ad 4), .inr (2, [.ref (ad 40), .int 0, .int (-1), .int 0, .int 0, .int 0])), ((ad 3), .inr (0, [.ref (ad 30), .ref (ad 31), .ref (ad 32), .ref (ad 33), .ref (ad 34), .ref (ad 35), .ref (ad 36), .ref (ad 37), .ref (ad 38), .int 0, .int 0, .int 0, .int 0, .int 1, .int 0, .int 0, .int 0]))] : va_W)) (wr := [((ad 0), .inr (4, [.ref (ad 1), .ref (ad 2), .ref (ad 3), .ref (ad 4), .ref (ad 5), .ref (ad 6), .ref (ad 7), .ref (ad 8), .ref (ad 9), .int 0])), ((ad 9), .inl (k 0, 5, .inl (fun _ => 0)))]) (isC := [1, 3]) (isR := [0, 2]) hP hD hS hA rfl rfl (by decide) (by decide) (gx_runV (na := 1) (As := [.ref (ad 3)]) (rest := []) (ci := 2) C hl.1 hK (gx_subP (wc := ([((ad 4), .inr (2, [.ref (ad 40), .int 0, .int (-1), .int 0, .int 0, .int 0])), ((ad 3), .inr (0, [.ref (ad 30), .ref (ad 31), .ref (ad 32), .ref (ad 33), .ref (ad 34), .ref (ad 35), .ref (ad 36), .ref (ad 37), .ref (ad 38), .int 0, .int 0, .int 0, .int 0, .int 1, .int 0, .int 0, .int 0]))] : va_W)) hP [1, 3] rfl) ((hD.sub (ws' := ([((ad 4), .inr (2, [.ref (ad 40), .int 0, .int (-1), .int 0, .int 0, .int 0])), ((ad 3), .inr (0, [.ref (ad 30), .ref (ad 31), .ref (ad 32), .ref (ad 33), .ref (ad 34), .ref (ad 35), .ref (ad 36), .ref (ad 37), .ref (ad 38), .int 0, .int 0, .int 0, .int 0, .int 1, .int 0, .int 0, .int 0]))] : va_W)) [1, 3] (by decide) rfl).weaken (fun _ _ _ _ => trivial)) (k_readOnto l D k (ad 4) (ad 40) (ad 3) (ad 30) (ad 31) (ad 32) (ad 33) (ad 34) (ad 35) (ad 36) (ad 37) (ad 38) _) gV_RX6_163 (by decide +kernel) rfl rfl ⟨Nat.le_of_ble_eq_true rfl, Nat.le_of_ble_eq_true rfl⟩ rfl rfl rfl rfl (Nat.le_of_ble_eq_true rfl) dX6_land_19 ⟨Nat.le_of_ble_eq_true rfl, Nat.le_of_ble_eq_true rfl⟩) (fun r_7 u_5 H locs h_6 hP hD hS => ?_)
  have h_6 : r_7 = 1 := h_6
  have hP : va_P D gx_cl [((ad 0), .inr (4, [.ref (ad 1), .ref (ad 2), .ref (ad 3), .ref (ad 4), .ref (ad 5), .ref (ad 6), .ref (ad 7), .ref (ad 8), .ref (ad 9), .int 0])), ((ad 9), .inl (k 0, 5, .inl (fun _ => 0))), ((ad 4), .inr (2, [.ref (ad 40), .int 0, .int 0, .int 0, .int 0, .int 0]))] H := hP
  have hD : va_D A [((ad 0), .inr (4, [.ref (ad 1), .ref (ad 2), .ref (ad 3), .ref (ad 4), .ref (ad 5), .ref (ad 6), .ref (ad 7), .ref (ad 8), .ref (ad 9), .int 0])), ((ad 9), .inl (k 0, 5, .inl (fun _ => 0))), ((ad 4), .inr (2, [.ref (ad 40), .int 0, .int 0, .int 0, .int 0, .int 0]))] := hD
  have eh_6 := h_6
  subst eh_6
  refine lv_istore_n (lv' := [(1, .int 1), (0, .ref (ad 0))]) hx hb dX6_land_22 rfl hl (by decide) rfl (fun ls hl => ?_)
  refine lv_aload_n hx hb dX6_land_23 rfl (lv_at hl 1 rfl) ?_
  refine va_get (D := D) (ci := 4) (v := .ref (ad 4)) (C := RX6) (T := TX6) (N := 10) hx hb hT iw_TX6 hown hK.1 hP 0 rfl rfl 3 (by decide) (hT _ wd_274) (fun _ h9 => h9) rfl dX6_land_24 ?_
  refine va_get (D := D) (ci := 2) (v := .int 0) (C := RX4) (T := TX4) (N := 6) hx hb hT iw_TX4 hown hK.1 hP 2 rfl rfl 2 (by decide) (hT _ wd_199) (fun _ h9 => h9) rfl dX6_land_27 ?_
  refine lv_istore_n (lv' := [(2, .int 0), (1, .int 1), (0, .ref (ad 0))]) hx hb dX6_land_30 rfl hl (by decide) rfl (fun ls hl => ?_)
  refine lv_aload_n hx hb dX6_land_31 rfl (lv_at hl 2 rfl) ?_
  refine va_get (D := D) (ci := 4) (v := .ref (ad 4)) (C := RX6) (T := TX6) (N := 10) hx hb hT iw_TX6 hown hK.1 hP 0 rfl rfl 3 (by decide) (hT _ wd_274) (fun _ h9 => h9) rfl dX6_land_32 ?_
  refine lv_iconst (v := 0) hx hb dX6_land_35 (by decide) ?_
  refine va_put (D := D) (ci := 2) (v := .int 0) (ty := .int) (C := RX4) (T := TX4) (N := 6) hx hb hT iw_TX4 tyX4 tyX4_ok nmX4 hown hK.1 hP hD hS 2 rfl rfl 1 (by decide) (hT _ wd_197) (fun _ h9 => h9) rfl (by decide +kernel) rfl rfl (Nat.le_of_ble_eq_true rfl) dX6_land_36 (fun H locs hP hD hS => ?_)
  have hP : va_P D gx_cl [((ad 0), .inr (4, [.ref (ad 1), .ref (ad 2), .ref (ad 3), .ref (ad 4), .ref (ad 5), .ref (ad 6), .ref (ad 7), .ref (ad 8), .ref (ad 9), .int 0])), ((ad 9), .inl (k 0, 5, .inl (fun _ => 0))), ((ad 4), .inr (2, [.ref (ad 40), .int 0, .int 0, .int 0, .int 0, .int 0]))] H := hP
  have hD : va_D A [((ad 0), .inr (4, [.ref (ad 1), .ref (ad 2), .ref (ad 3), .ref (ad 4), .ref (ad 5), .ref (ad 6), .ref (ad 7), .ref (ad 8), .ref (ad 9), .int 0])), ((ad 9), .inl (k 0, 5, .inl (fun _ => 0))), ((ad 4), .inr (2, [.ref (ad 40), .int 0, .int 0, .int 0, .int 0, .int 0]))] := hD
  refine lv_iload_n hx hb dX6_land_39 rfl (lv_at hl 0 rfl) ?_
  refine lv_iconst (v := (-1)) hx hb dX6_land_40 (by decide) ?_
  refine lv_icmp_eq (tgt := 56) hx hb dX6_land_41 (by decide) (fun c_9 => absurd c_9 (by decide)) (fun c_9 => ?_)
  refine lv_aload_n hx hb dX6_land_44 rfl (lv_at hl 2 rfl) ?_
  refine lv_bipush (v := (-2)) hx hb dX6_land_45 (by decide) ?_
  refine gx_ei (wc := ([((ad 0), .inr (4, [.ref (ad 1), .ref (ad 2), .ref (ad 3), .ref (ad 4), .ref (ad 5), .ref (ad 6), .ref (ad 7), .ref (ad 8), .ref (ad 9), .int 0])), ((ad 9), .inl (k 0, 5, .inl (fun _ => 0)))] : va_W)) (wr := [((ad 4), .inr (2, [.ref (ad 40), .int 0, .int 0, .int 0, .int 0, .int 0]))]) (isC := [0, 1]) (isR := [2]) hP hD hS hA rfl rfl (by decide) (by decide) (gx_runV (na := 1) (As := [.int (-2)]) (rest := []) (ci := 4) C hl.1 hK (gx_subP (wc := ([((ad 0), .inr (4, [.ref (ad 1), .ref (ad 2), .ref (ad 3), .ref (ad 4), .ref (ad 5), .ref (ad 6), .ref (ad 7), .ref (ad 8), .ref (ad 9), .int 0])), ((ad 9), .inl (k 0, 5, .inl (fun _ => 0)))] : va_W)) hP [0, 1] rfl) ((hD.sub (ws' := ([((ad 0), .inr (4, [.ref (ad 1), .ref (ad 2), .ref (ad 3), .ref (ad 4), .ref (ad 5), .ref (ad 6), .ref (ad 7), .ref (ad 8), .ref (ad 9), .int 0])), ((ad 9), .inl (k 0, 5, .inl (fun _ => 0)))] : va_W)) [0, 1] (by decide) rfl).weaken (fun _ _ _ _ => trivial)) (k_refuse2 l D k ad _) gV_RX6_61 (by decide +kernel) rfl rfl ⟨Nat.le_of_ble_eq_true rfl, Nat.le_of_ble_eq_true rfl⟩ rfl rfl rfl rfl (Nat.le_of_ble_eq_true rfl) dX6_land_47 ⟨Nat.le_of_ble_eq_true rfl, Nat.le_of_ble_eq_true rfl⟩) (fun r_12 u_10 H locs h_11 hP hD hS => ?_)
  have h_11 : r_12 = -2 := h_11
  have hP : va_P D gx_cl [((ad 4), .inr (2, [.ref (ad 40), .int 0, .int 0, .int 0, .int 0, .int 0]))] H := hP
  have hD : va_D A [((ad 4), .inr (2, [.ref (ad 40), .int 0, .int 0, .int 0, .int 0, .int 0]))] := hD
  have eh_11 := h_11
  subst eh_11
  refine lv_pop hx hb dX6_land_50 rfl ?_
  refine lv_bipush (v := (-20)) hx hb dX6_land_51 (by decide) ?_
  refine lv_iload_n hx hb dX6_land_53 rfl (lv_at hl 0 rfl) ?_
  refine lv_isub hx hb dX6_land_54 ?_
  refine gx_cst (v := (-20)) (by decide) ?_
  exact gx_retI C (u := ()) gx_nil gx_noneD hS (rfl) dX6_land_55
set_option maxHeartbeats 4000000 in
set_option maxRecDepth 100000 in
theorem x_roadOf (l : Launch) (D : va_G) (k : Nat → ClassId) (ad : Nat → Nat) (av : Int32) (bv : Int32) (sz : Nat) : Met l yX6_roadOf (.code yX6_roadOf cX6_roadOf 3 (some .int) :: gx_T) ({ frames := 2, cells := 0, slots := 0, locals := 43 }) (gx_Pre D k [.ref (ad 0), .int av, .int bv] ([((ad 0), .inr (4, [.ref (ad 1), .ref (ad 2), .ref (ad 3), .ref (ad 4), .ref (ad 5), .ref (ad 6), .ref (ad 7), .ref (ad 8), .ref (ad 9), .int 0])), ((ad 1), .inr (0, [.ref (ad 10), .ref (ad 11), .ref (ad 12), .ref (ad 13), .ref (ad 14), .ref (ad 15), .ref (ad 16), .ref (ad 17), .ref (ad 18), .int 0, .int 0, .int 0, .int 0, .int 1, .int 0, .int 0, .int 0])), ((ad 9), .inl (k 0, 5, .inl (fun _ => 0)))]) sz) (gx_Qi D (fun (r : Int32) (u : Unit) => r = -2) (fun (u : Unit) => ([] : va_W)) (va_A ([((ad 0), .inr (4, [.ref (ad 1), .ref (ad 2), .ref (ad 3), .ref (ad 4), .ref (ad 5), .ref (ad 6), .ref (ad 7), .ref (ad 8), .ref (ad 9), .int 0])), ((ad 1), .inr (0, [.ref (ad 10), .ref (ad 11), .ref (ad 12), .ref (ad 13), .ref (ad 14), .ref (ad 15), .ref (ad 16), .ref (ad 17), .ref (ad 18), .int 0, .int 0, .int 0, .int 0, .int 1, .int 0, .int 0, .int 0])), ((ad 9), .inl (k 0, 5, .inl (fun _ => 0)))]) sz)) 0 0 (va_A ([((ad 0), .inr (4, [.ref (ad 1), .ref (ad 2), .ref (ad 3), .ref (ad 4), .ref (ad 5), .ref (ad 6), .ref (ad 7), .ref (ad 8), .ref (ad 9), .int 0])), ((ad 1), .inr (0, [.ref (ad 10), .ref (ad 11), .ref (ad 12), .ref (ad 13), .ref (ad 14), .ref (ad 15), .ref (ad 16), .ref (ad 17), .ref (ad 18), .int 0, .int 0, .int 0, .int 0, .int 1, .int 0, .int 0, .int 0])), ((ad 9), .inl (k 0, 5, .inl (fun _ => 0)))]) sz) := by
  refine gx_metE (Qc := fun A => gx_Qi D (fun (r : Int32) (u : Unit) => r = -2) (fun (u : Unit) => ([] : va_W)) A) (by decide) (Nat.le_of_ble_eq_true rfl) ?_
  intro p e s m below meth c A ls C hA hP hD hK hS hl
  obtain ⟨hx, hb, hr, hml, hown, hT, hlk, hin⟩ := id C
  have hown : s.vm.findClass RX6 = some m.cls := hown
  have hl : lv_has ls 3 [(0, .ref (ad 0)), (1, .int av), (2, .int bv)] := hl
  refine lv_aload_n hx hb dX6_roadOf_0 rfl (lv_at hl 0 rfl) ?_
  refine lv_iload_n hx hb dX6_roadOf_1 rfl (lv_at hl 1 rfl) ?_
  refine gx_pi hP hS (gx_runV (na := 1) (As := [.int av]) (rest := []) (ci := 4) C hl.1 hK (gx_subP (wc := ([((ad 0), .inr (4, [.ref (ad 1), .ref (ad 2), .ref (ad 3), .ref (ad 4), .ref (ad 5), .ref (ad 6), .ref (ad 7), .ref (ad 8), .ref (ad 9), .int 0])), ((ad 1), .inr (0, [.ref (ad 10), .ref (ad 11), .ref (ad 12), .ref (ad 13), .ref (ad 14), .ref (ad 15), .ref (ad 16), .ref (ad 17), .ref (ad 18), .int 0, .int 0, .int 0, .int 0, .int 1, .int 0, .int 0, .int 0]))] : va_W)) hP [0, 1] rfl) ((hD.sub (ws' := ([((ad 0), .inr (4, [.ref (ad 1), .ref (ad 2), .ref (ad 3), .ref (ad 4), .ref (ad 5), .ref (ad 6), .ref (ad 7), .ref (ad 8), .ref (ad 9), .int 0])), ((ad 1), .inr (0, [.ref (ad 10), .ref (ad 11), .ref (ad 12), .ref (ad 13), .ref (ad 14), .ref (ad 15), .ref (ad 16), .ref (ad 17), .ref (ad 18), .int 0, .int 0, .int 0, .int 0, .int 1, .int 0, .int 0, .int 0]))] : va_W)) [0, 1] (by decide) rfl).weaken (fun _ _ _ _ => trivial)) (k_isRoad l D k ad av _) gV_RX6_143 (by decide +kernel) rfl rfl ⟨Nat.le_of_ble_eq_true rfl, Nat.le_of_ble_eq_true rfl⟩ rfl rfl rfl rfl (Nat.le_of_ble_eq_true rfl) dX6_roadOf_2 ⟨Nat.le_of_ble_eq_true rfl, Nat.le_of_ble_eq_true rfl⟩) (fun r_2 H locs c_1 hP hS => ?_)
  have c_1 : r_2 = 0 := c_1
  subst c_1
  refine lv_if_ne (tgt := 15) hx hb dX6_roadOf_5 (by decide) (fun c_3 => absurd (by decide) c_3) (fun c_3 => ?_)
  refine lv_aload_n hx hb dX6_roadOf_8 rfl (lv_at hl 0 rfl) ?_
  refine lv_bipush (v := (-2)) hx hb dX6_roadOf_9 (by decide) ?_
  refine gx_ei (wc := ([((ad 0), .inr (4, [.ref (ad 1), .ref (ad 2), .ref (ad 3), .ref (ad 4), .ref (ad 5), .ref (ad 6), .ref (ad 7), .ref (ad 8), .ref (ad 9), .int 0])), ((ad 9), .inl (k 0, 5, .inl (fun _ => 0)))] : va_W)) (wr := [((ad 1), .inr (0, [.ref (ad 10), .ref (ad 11), .ref (ad 12), .ref (ad 13), .ref (ad 14), .ref (ad 15), .ref (ad 16), .ref (ad 17), .ref (ad 18), .int 0, .int 0, .int 0, .int 0, .int 1, .int 0, .int 0, .int 0]))]) (isC := [0, 2]) (isR := [1]) hP hD hS hA rfl rfl (by decide) (by decide) (gx_runV (na := 1) (As := [.int (-2)]) (rest := []) (ci := 4) C hl.1 hK (gx_subP (wc := ([((ad 0), .inr (4, [.ref (ad 1), .ref (ad 2), .ref (ad 3), .ref (ad 4), .ref (ad 5), .ref (ad 6), .ref (ad 7), .ref (ad 8), .ref (ad 9), .int 0])), ((ad 9), .inl (k 0, 5, .inl (fun _ => 0)))] : va_W)) hP [0, 2] rfl) ((hD.sub (ws' := ([((ad 0), .inr (4, [.ref (ad 1), .ref (ad 2), .ref (ad 3), .ref (ad 4), .ref (ad 5), .ref (ad 6), .ref (ad 7), .ref (ad 8), .ref (ad 9), .int 0])), ((ad 9), .inl (k 0, 5, .inl (fun _ => 0)))] : va_W)) [0, 2] (by decide) rfl).weaken (fun _ _ _ _ => trivial)) (k_refuse2 l D k ad _) gV_RX6_61 (by decide +kernel) rfl rfl ⟨Nat.le_of_ble_eq_true rfl, Nat.le_of_ble_eq_true rfl⟩ rfl rfl rfl rfl (Nat.le_of_ble_eq_true rfl) dX6_roadOf_11 ⟨Nat.le_of_ble_eq_true rfl, Nat.le_of_ble_eq_true rfl⟩) (fun r_6 u_4 H locs h_5 hP hD hS => ?_)
  have h_5 : r_6 = -2 := h_5
  have hP : va_P D gx_cl [((ad 1), .inr (0, [.ref (ad 10), .ref (ad 11), .ref (ad 12), .ref (ad 13), .ref (ad 14), .ref (ad 15), .ref (ad 16), .ref (ad 17), .ref (ad 18), .int 0, .int 0, .int 0, .int 0, .int 1, .int 0, .int 0, .int 0]))] H := hP
  have hD : va_D A [((ad 1), .inr (0, [.ref (ad 10), .ref (ad 11), .ref (ad 12), .ref (ad 13), .ref (ad 14), .ref (ad 15), .ref (ad 16), .ref (ad 17), .ref (ad 18), .int 0, .int 0, .int 0, .int 0, .int 1, .int 0, .int 0, .int 0]))] := hD
  have eh_5 := h_5
  subst eh_5
  exact gx_retI C (u := ()) gx_nil gx_noneD hS (rfl) dX6_roadOf_14
set_option maxHeartbeats 4000000 in
set_option maxRecDepth 100000 in
theorem x_oneOf (l : Launch) (D : va_G) (k : Nat → ClassId) (ad : Nat → Nat) (av : Int32) (bv : Int32) (sz : Nat) : Met l yX6_oneOf (.code yX6_oneOf cX6_oneOf 3 (some .int) :: gx_T) ({ frames := 2, cells := 0, slots := 0, locals := 43 }) (gx_Pre D k [.ref (ad 0), .int av, .int bv] ([((ad 0), .inr (4, [.ref (ad 1), .ref (ad 2), .ref (ad 3), .ref (ad 4), .ref (ad 5), .ref (ad 6), .ref (ad 7), .ref (ad 8), .ref (ad 9), .int 0])), ((ad 1), .inr (0, [.ref (ad 10), .ref (ad 11), .ref (ad 12), .ref (ad 13), .ref (ad 14), .ref (ad 15), .ref (ad 16), .ref (ad 17), .ref (ad 18), .int 0, .int 0, .int 0, .int 0, .int 1, .int 0, .int 0, .int 0])), ((ad 9), .inl (k 0, 5, .inl (fun _ => 0)))]) sz) (gx_Qi D (fun (r : Int32) (u : Unit) => r = -2) (fun (u : Unit) => ([] : va_W)) (va_A ([((ad 0), .inr (4, [.ref (ad 1), .ref (ad 2), .ref (ad 3), .ref (ad 4), .ref (ad 5), .ref (ad 6), .ref (ad 7), .ref (ad 8), .ref (ad 9), .int 0])), ((ad 1), .inr (0, [.ref (ad 10), .ref (ad 11), .ref (ad 12), .ref (ad 13), .ref (ad 14), .ref (ad 15), .ref (ad 16), .ref (ad 17), .ref (ad 18), .int 0, .int 0, .int 0, .int 0, .int 1, .int 0, .int 0, .int 0])), ((ad 9), .inl (k 0, 5, .inl (fun _ => 0)))]) sz)) 0 0 (va_A ([((ad 0), .inr (4, [.ref (ad 1), .ref (ad 2), .ref (ad 3), .ref (ad 4), .ref (ad 5), .ref (ad 6), .ref (ad 7), .ref (ad 8), .ref (ad 9), .int 0])), ((ad 1), .inr (0, [.ref (ad 10), .ref (ad 11), .ref (ad 12), .ref (ad 13), .ref (ad 14), .ref (ad 15), .ref (ad 16), .ref (ad 17), .ref (ad 18), .int 0, .int 0, .int 0, .int 0, .int 1, .int 0, .int 0, .int 0])), ((ad 9), .inl (k 0, 5, .inl (fun _ => 0)))]) sz) := by
  refine gx_metE (Qc := fun A => gx_Qi D (fun (r : Int32) (u : Unit) => r = -2) (fun (u : Unit) => ([] : va_W)) A) (by decide) (Nat.le_of_ble_eq_true rfl) ?_
  intro p e s m below meth c A ls C hA hP hD hK hS hl
  obtain ⟨hx, hb, hr, hml, hown, hT, hlk, hin⟩ := id C
  have hown : s.vm.findClass RX6 = some m.cls := hown
  have hl : lv_has ls 3 [(0, .ref (ad 0)), (1, .int av), (2, .int bv)] := hl
  refine lv_aload_n hx hb dX6_oneOf_0 rfl (lv_at hl 0 rfl) ?_
  refine lv_iload_n hx hb dX6_oneOf_1 rfl (lv_at hl 1 rfl) ?_
  refine gx_pi hP hS (gx_runV (na := 1) (As := [.int av]) (rest := []) (ci := 4) C hl.1 hK (gx_subP (wc := ([((ad 0), .inr (4, [.ref (ad 1), .ref (ad 2), .ref (ad 3), .ref (ad 4), .ref (ad 5), .ref (ad 6), .ref (ad 7), .ref (ad 8), .ref (ad 9), .int 0])), ((ad 1), .inr (0, [.ref (ad 10), .ref (ad 11), .ref (ad 12), .ref (ad 13), .ref (ad 14), .ref (ad 15), .ref (ad 16), .ref (ad 17), .ref (ad 18), .int 0, .int 0, .int 0, .int 0, .int 1, .int 0, .int 0, .int 0]))] : va_W)) hP [0, 1] rfl) ((hD.sub (ws' := ([((ad 0), .inr (4, [.ref (ad 1), .ref (ad 2), .ref (ad 3), .ref (ad 4), .ref (ad 5), .ref (ad 6), .ref (ad 7), .ref (ad 8), .ref (ad 9), .int 0])), ((ad 1), .inr (0, [.ref (ad 10), .ref (ad 11), .ref (ad 12), .ref (ad 13), .ref (ad 14), .ref (ad 15), .ref (ad 16), .ref (ad 17), .ref (ad 18), .int 0, .int 0, .int 0, .int 0, .int 1, .int 0, .int 0, .int 0]))] : va_W)) [0, 1] (by decide) rfl).weaken (fun _ _ _ _ => trivial)) (k_isOne l D k ad av _) gV_RX6_182 (by decide +kernel) rfl rfl ⟨Nat.le_of_ble_eq_true rfl, Nat.le_of_ble_eq_true rfl⟩ rfl rfl rfl rfl (Nat.le_of_ble_eq_true rfl) dX6_oneOf_2 ⟨Nat.le_of_ble_eq_true rfl, Nat.le_of_ble_eq_true rfl⟩) (fun r_2 H locs c_1 hP hS => ?_)
  have c_1 : r_2 = 0 := c_1
  subst c_1
  refine lv_if_ne (tgt := 15) hx hb dX6_oneOf_5 (by decide) (fun c_3 => absurd (by decide) c_3) (fun c_3 => ?_)
  refine lv_aload_n hx hb dX6_oneOf_8 rfl (lv_at hl 0 rfl) ?_
  refine lv_bipush (v := (-2)) hx hb dX6_oneOf_9 (by decide) ?_
  refine gx_ei (wc := ([((ad 0), .inr (4, [.ref (ad 1), .ref (ad 2), .ref (ad 3), .ref (ad 4), .ref (ad 5), .ref (ad 6), .ref (ad 7), .ref (ad 8), .ref (ad 9), .int 0])), ((ad 9), .inl (k 0, 5, .inl (fun _ => 0)))] : va_W)) (wr := [((ad 1), .inr (0, [.ref (ad 10), .ref (ad 11), .ref (ad 12), .ref (ad 13), .ref (ad 14), .ref (ad 15), .ref (ad 16), .ref (ad 17), .ref (ad 18), .int 0, .int 0, .int 0, .int 0, .int 1, .int 0, .int 0, .int 0]))]) (isC := [0, 2]) (isR := [1]) hP hD hS hA rfl rfl (by decide) (by decide) (gx_runV (na := 1) (As := [.int (-2)]) (rest := []) (ci := 4) C hl.1 hK (gx_subP (wc := ([((ad 0), .inr (4, [.ref (ad 1), .ref (ad 2), .ref (ad 3), .ref (ad 4), .ref (ad 5), .ref (ad 6), .ref (ad 7), .ref (ad 8), .ref (ad 9), .int 0])), ((ad 9), .inl (k 0, 5, .inl (fun _ => 0)))] : va_W)) hP [0, 2] rfl) ((hD.sub (ws' := ([((ad 0), .inr (4, [.ref (ad 1), .ref (ad 2), .ref (ad 3), .ref (ad 4), .ref (ad 5), .ref (ad 6), .ref (ad 7), .ref (ad 8), .ref (ad 9), .int 0])), ((ad 9), .inl (k 0, 5, .inl (fun _ => 0)))] : va_W)) [0, 2] (by decide) rfl).weaken (fun _ _ _ _ => trivial)) (k_refuse2 l D k ad _) gV_RX6_61 (by decide +kernel) rfl rfl ⟨Nat.le_of_ble_eq_true rfl, Nat.le_of_ble_eq_true rfl⟩ rfl rfl rfl rfl (Nat.le_of_ble_eq_true rfl) dX6_oneOf_11 ⟨Nat.le_of_ble_eq_true rfl, Nat.le_of_ble_eq_true rfl⟩) (fun r_6 u_4 H locs h_5 hP hD hS => ?_)
  have h_5 : r_6 = -2 := h_5
  have hP : va_P D gx_cl [((ad 1), .inr (0, [.ref (ad 10), .ref (ad 11), .ref (ad 12), .ref (ad 13), .ref (ad 14), .ref (ad 15), .ref (ad 16), .ref (ad 17), .ref (ad 18), .int 0, .int 0, .int 0, .int 0, .int 1, .int 0, .int 0, .int 0]))] H := hP
  have hD : va_D A [((ad 1), .inr (0, [.ref (ad 10), .ref (ad 11), .ref (ad 12), .ref (ad 13), .ref (ad 14), .ref (ad 15), .ref (ad 16), .ref (ad 17), .ref (ad 18), .int 0, .int 0, .int 0, .int 0, .int 1, .int 0, .int 0, .int 0]))] := hD
  have eh_5 := h_5
  subst eh_5
  exact gx_retI C (u := ()) gx_nil gx_noneD hS (rfl) dX6_oneOf_14
set_option maxHeartbeats 4000000 in
set_option maxRecDepth 100000 in
theorem x_when (l : Launch) (D : va_G) (k : Nat → ClassId) (ad : Nat → Nat) (av : Int32) (bv : Int32) (sz : Nat) : Met l yX6_when (.code yX6_when cX6_when 3 (some .int) :: gx_T) ({ frames := 2, cells := 0, slots := 0, locals := 43 }) (gx_Pre D k [.ref (ad 0), .int av, .int bv] ([((ad 0), .inr (4, [.ref (ad 1), .ref (ad 2), .ref (ad 3), .ref (ad 4), .ref (ad 5), .ref (ad 6), .ref (ad 7), .ref (ad 8), .ref (ad 9), .int 0])), ((ad 1), .inr (0, [.ref (ad 10), .ref (ad 11), .ref (ad 12), .ref (ad 13), .ref (ad 14), .ref (ad 15), .ref (ad 16), .ref (ad 17), .ref (ad 18), .int 0, .int 0, .int 0, .int 0, .int 1, .int 0, .int 0, .int 0])), ((ad 9), .inl (k 0, 5, .inl (fun _ => 0)))]) sz) (gx_Qi D (fun (r : Int32) (u : Unit) => r = -2) (fun (u : Unit) => ([] : va_W)) (va_A ([((ad 0), .inr (4, [.ref (ad 1), .ref (ad 2), .ref (ad 3), .ref (ad 4), .ref (ad 5), .ref (ad 6), .ref (ad 7), .ref (ad 8), .ref (ad 9), .int 0])), ((ad 1), .inr (0, [.ref (ad 10), .ref (ad 11), .ref (ad 12), .ref (ad 13), .ref (ad 14), .ref (ad 15), .ref (ad 16), .ref (ad 17), .ref (ad 18), .int 0, .int 0, .int 0, .int 0, .int 1, .int 0, .int 0, .int 0])), ((ad 9), .inl (k 0, 5, .inl (fun _ => 0)))]) sz)) 0 0 (va_A ([((ad 0), .inr (4, [.ref (ad 1), .ref (ad 2), .ref (ad 3), .ref (ad 4), .ref (ad 5), .ref (ad 6), .ref (ad 7), .ref (ad 8), .ref (ad 9), .int 0])), ((ad 1), .inr (0, [.ref (ad 10), .ref (ad 11), .ref (ad 12), .ref (ad 13), .ref (ad 14), .ref (ad 15), .ref (ad 16), .ref (ad 17), .ref (ad 18), .int 0, .int 0, .int 0, .int 0, .int 1, .int 0, .int 0, .int 0])), ((ad 9), .inl (k 0, 5, .inl (fun _ => 0)))]) sz) := by
  refine gx_metE (Qc := fun A => gx_Qi D (fun (r : Int32) (u : Unit) => r = -2) (fun (u : Unit) => ([] : va_W)) A) (by decide) (Nat.le_of_ble_eq_true rfl) ?_
  intro p e s m below meth c A ls C hA hP hD hK hS hl
  obtain ⟨hx, hb, hr, hml, hown, hT, hlk, hin⟩ := id C
  have hown : s.vm.findClass RX6 = some m.cls := hown
  have hl : lv_has ls 3 [(0, .ref (ad 0)), (1, .int av), (2, .int bv)] := hl
  refine lv_aload_n hx hb dX6_when_0 rfl (lv_at hl 0 rfl) ?_
  refine lv_iload_n hx hb dX6_when_1 rfl (lv_at hl 1 rfl) ?_
  refine gx_pi hP hS (gx_runV (na := 1) (As := [.int av]) (rest := []) (ci := 4) C hl.1 hK (gx_subP (wc := ([((ad 0), .inr (4, [.ref (ad 1), .ref (ad 2), .ref (ad 3), .ref (ad 4), .ref (ad 5), .ref (ad 6), .ref (ad 7), .ref (ad 8), .ref (ad 9), .int 0])), ((ad 1), .inr (0, [.ref (ad 10), .ref (ad 11), .ref (ad 12), .ref (ad 13), .ref (ad 14), .ref (ad 15), .ref (ad 16), .ref (ad 17), .ref (ad 18), .int 0, .int 0, .int 0, .int 0, .int 1, .int 0, .int 0, .int 0]))] : va_W)) hP [0, 1] rfl) ((hD.sub (ws' := ([((ad 0), .inr (4, [.ref (ad 1), .ref (ad 2), .ref (ad 3), .ref (ad 4), .ref (ad 5), .ref (ad 6), .ref (ad 7), .ref (ad 8), .ref (ad 9), .int 0])), ((ad 1), .inr (0, [.ref (ad 10), .ref (ad 11), .ref (ad 12), .ref (ad 13), .ref (ad 14), .ref (ad 15), .ref (ad 16), .ref (ad 17), .ref (ad 18), .int 0, .int 0, .int 0, .int 0, .int 1, .int 0, .int 0, .int 0]))] : va_W)) [0, 1] (by decide) rfl).weaken (fun _ _ _ _ => trivial)) (k_isOne l D k ad av _) gV_RX6_182 (by decide +kernel) rfl rfl ⟨Nat.le_of_ble_eq_true rfl, Nat.le_of_ble_eq_true rfl⟩ rfl rfl rfl rfl (Nat.le_of_ble_eq_true rfl) dX6_when_2 ⟨Nat.le_of_ble_eq_true rfl, Nat.le_of_ble_eq_true rfl⟩) (fun r_2 H locs c_1 hP hS => ?_)
  have c_1 : r_2 = 0 := c_1
  subst c_1
  refine lv_if_eq (tgt := 28) hx hb dX6_when_5 (by decide) (fun c_3 => ?_) (fun c_3 => absurd (by decide) c_3)
  refine lv_aload_n hx hb dX6_when_28 rfl (lv_at hl 0 rfl) ?_
  refine lv_bipush (v := (-2)) hx hb dX6_when_29 (by decide) ?_
  refine gx_ei (wc := ([((ad 0), .inr (4, [.ref (ad 1), .ref (ad 2), .ref (ad 3), .ref (ad 4), .ref (ad 5), .ref (ad 6), .ref (ad 7), .ref (ad 8), .ref (ad 9), .int 0])), ((ad 9), .inl (k 0, 5, .inl (fun _ => 0)))] : va_W)) (wr := [((ad 1), .inr (0, [.ref (ad 10), .ref (ad 11), .ref (ad 12), .ref (ad 13), .ref (ad 14), .ref (ad 15), .ref (ad 16), .ref (ad 17), .ref (ad 18), .int 0, .int 0, .int 0, .int 0, .int 1, .int 0, .int 0, .int 0]))]) (isC := [0, 2]) (isR := [1]) hP hD hS hA rfl rfl (by decide) (by decide) (gx_runV (na := 1) (As := [.int (-2)]) (rest := []) (ci := 4) C hl.1 hK (gx_subP (wc := ([((ad 0), .inr (4, [.ref (ad 1), .ref (ad 2), .ref (ad 3), .ref (ad 4), .ref (ad 5), .ref (ad 6), .ref (ad 7), .ref (ad 8), .ref (ad 9), .int 0])), ((ad 9), .inl (k 0, 5, .inl (fun _ => 0)))] : va_W)) hP [0, 2] rfl) ((hD.sub (ws' := ([((ad 0), .inr (4, [.ref (ad 1), .ref (ad 2), .ref (ad 3), .ref (ad 4), .ref (ad 5), .ref (ad 6), .ref (ad 7), .ref (ad 8), .ref (ad 9), .int 0])), ((ad 9), .inl (k 0, 5, .inl (fun _ => 0)))] : va_W)) [0, 2] (by decide) rfl).weaken (fun _ _ _ _ => trivial)) (k_refuse2 l D k ad _) gV_RX6_61 (by decide +kernel) rfl rfl ⟨Nat.le_of_ble_eq_true rfl, Nat.le_of_ble_eq_true rfl⟩ rfl rfl rfl rfl (Nat.le_of_ble_eq_true rfl) dX6_when_31 ⟨Nat.le_of_ble_eq_true rfl, Nat.le_of_ble_eq_true rfl⟩) (fun r_6 u_4 H locs h_5 hP hD hS => ?_)
  have h_5 : r_6 = -2 := h_5
  have hP : va_P D gx_cl [((ad 1), .inr (0, [.ref (ad 10), .ref (ad 11), .ref (ad 12), .ref (ad 13), .ref (ad 14), .ref (ad 15), .ref (ad 16), .ref (ad 17), .ref (ad 18), .int 0, .int 0, .int 0, .int 0, .int 1, .int 0, .int 0, .int 0]))] H := hP
  have hD : va_D A [((ad 1), .inr (0, [.ref (ad 10), .ref (ad 11), .ref (ad 12), .ref (ad 13), .ref (ad 14), .ref (ad 15), .ref (ad 16), .ref (ad 17), .ref (ad 18), .int 0, .int 0, .int 0, .int 0, .int 1, .int 0, .int 0, .int 0]))] := hD
  have eh_5 := h_5
  subst eh_5
  exact gx_retI C (u := ()) gx_nil gx_noneD hS (rfl) dX6_when_34
set_option maxHeartbeats 4000000 in
set_option maxRecDepth 100000 in
theorem x_left (l : Launch) (D : va_G) (k : Nat → ClassId) (ad : Nat → Nat) (av : Int32) (sz : Nat) : Met l yX6_left (.code yX6_left cX6_left 2 (some .int) :: gx_T) ({ frames := 2, cells := 0, slots := 0, locals := 43 }) (gx_Pre D k [.ref (ad 0), .int av] ([((ad 0), .inr (4, [.ref (ad 1), .ref (ad 2), .ref (ad 3), .ref (ad 4), .ref (ad 5), .ref (ad 6), .ref (ad 7), .ref (ad 8), .ref (ad 9), .int 0])), ((ad 1), .inr (0, [.ref (ad 10), .ref (ad 11), .ref (ad 12), .ref (ad 13), .ref (ad 14), .ref (ad 15), .ref (ad 16), .ref (ad 17), .ref (ad 18), .int 0, .int 0, .int 0, .int 0, .int 1, .int 0, .int 0, .int 0])), ((ad 9), .inl (k 0, 5, .inl (fun _ => 0)))]) sz) (gx_Qi D (fun (r : Int32) (u : Unit) => r = -2) (fun (u : Unit) => ([] : va_W)) (va_A ([((ad 0), .inr (4, [.ref (ad 1), .ref (ad 2), .ref (ad 3), .ref (ad 4), .ref (ad 5), .ref (ad 6), .ref (ad 7), .ref (ad 8), .ref (ad 9), .int 0])), ((ad 1), .inr (0, [.ref (ad 10), .ref (ad 11), .ref (ad 12), .ref (ad 13), .ref (ad 14), .ref (ad 15), .ref (ad 16), .ref (ad 17), .ref (ad 18), .int 0, .int 0, .int 0, .int 0, .int 1, .int 0, .int 0, .int 0])), ((ad 9), .inl (k 0, 5, .inl (fun _ => 0)))]) sz)) 0 0 (va_A ([((ad 0), .inr (4, [.ref (ad 1), .ref (ad 2), .ref (ad 3), .ref (ad 4), .ref (ad 5), .ref (ad 6), .ref (ad 7), .ref (ad 8), .ref (ad 9), .int 0])), ((ad 1), .inr (0, [.ref (ad 10), .ref (ad 11), .ref (ad 12), .ref (ad 13), .ref (ad 14), .ref (ad 15), .ref (ad 16), .ref (ad 17), .ref (ad 18), .int 0, .int 0, .int 0, .int 0, .int 1, .int 0, .int 0, .int 0])), ((ad 9), .inl (k 0, 5, .inl (fun _ => 0)))]) sz) := by
  refine gx_metE (Qc := fun A => gx_Qi D (fun (r : Int32) (u : Unit) => r = -2) (fun (u : Unit) => ([] : va_W)) A) (by decide) (Nat.le_of_ble_eq_true rfl) ?_
  intro p e s m below meth c A ls C hA hP hD hK hS hl
  obtain ⟨hx, hb, hr, hml, hown, hT, hlk, hin⟩ := id C
  have hown : s.vm.findClass RX6 = some m.cls := hown
  have hl : lv_has ls 2 [(0, .ref (ad 0)), (1, .int av)] := hl
  refine lv_aload_n hx hb dX6_left_0 rfl (lv_at hl 0 rfl) ?_
  refine lv_iload_n hx hb dX6_left_1 rfl (lv_at hl 1 rfl) ?_
  refine gx_pi hP hS (gx_runV (na := 1) (As := [.int av]) (rest := []) (ci := 4) C hl.1 hK (gx_subP (wc := ([((ad 0), .inr (4, [.ref (ad 1), .ref (ad 2), .ref (ad 3), .ref (ad 4), .ref (ad 5), .ref (ad 6), .ref (ad 7), .ref (ad 8), .ref (ad 9), .int 0])), ((ad 1), .inr (0, [.ref (ad 10), .ref (ad 11), .ref (ad 12), .ref (ad 13), .ref (ad 14), .ref (ad 15), .ref (ad 16), .ref (ad 17), .ref (ad 18), .int 0, .int 0, .int 0, .int 0, .int 1, .int 0, .int 0, .int 0]))] : va_W)) hP [0, 1] rfl) ((hD.sub (ws' := ([((ad 0), .inr (4, [.ref (ad 1), .ref (ad 2), .ref (ad 3), .ref (ad 4), .ref (ad 5), .ref (ad 6), .ref (ad 7), .ref (ad 8), .ref (ad 9), .int 0])), ((ad 1), .inr (0, [.ref (ad 10), .ref (ad 11), .ref (ad 12), .ref (ad 13), .ref (ad 14), .ref (ad 15), .ref (ad 16), .ref (ad 17), .ref (ad 18), .int 0, .int 0, .int 0, .int 0, .int 1, .int 0, .int 0, .int 0]))] : va_W)) [0, 1] (by decide) rfl).weaken (fun _ _ _ _ => trivial)) (k_isOne l D k ad av _) gV_RX6_182 (by decide +kernel) rfl rfl ⟨Nat.le_of_ble_eq_true rfl, Nat.le_of_ble_eq_true rfl⟩ rfl rfl rfl rfl (Nat.le_of_ble_eq_true rfl) dX6_left_2 ⟨Nat.le_of_ble_eq_true rfl, Nat.le_of_ble_eq_true rfl⟩) (fun r_2 H locs c_1 hP hS => ?_)
  have c_1 : r_2 = 0 := c_1
  subst c_1
  refine lv_if_eq (tgt := 19) hx hb dX6_left_5 (by decide) (fun c_3 => ?_) (fun c_3 => absurd (by decide) c_3)
  refine lv_aload_n hx hb dX6_left_19 rfl (lv_at hl 0 rfl) ?_
  refine lv_bipush (v := (-2)) hx hb dX6_left_20 (by decide) ?_
  refine gx_ei (wc := ([((ad 0), .inr (4, [.ref (ad 1), .ref (ad 2), .ref (ad 3), .ref (ad 4), .ref (ad 5), .ref (ad 6), .ref (ad 7), .ref (ad 8), .ref (ad 9), .int 0])), ((ad 9), .inl (k 0, 5, .inl (fun _ => 0)))] : va_W)) (wr := [((ad 1), .inr (0, [.ref (ad 10), .ref (ad 11), .ref (ad 12), .ref (ad 13), .ref (ad 14), .ref (ad 15), .ref (ad 16), .ref (ad 17), .ref (ad 18), .int 0, .int 0, .int 0, .int 0, .int 1, .int 0, .int 0, .int 0]))]) (isC := [0, 2]) (isR := [1]) hP hD hS hA rfl rfl (by decide) (by decide) (gx_runV (na := 1) (As := [.int (-2)]) (rest := []) (ci := 4) C hl.1 hK (gx_subP (wc := ([((ad 0), .inr (4, [.ref (ad 1), .ref (ad 2), .ref (ad 3), .ref (ad 4), .ref (ad 5), .ref (ad 6), .ref (ad 7), .ref (ad 8), .ref (ad 9), .int 0])), ((ad 9), .inl (k 0, 5, .inl (fun _ => 0)))] : va_W)) hP [0, 2] rfl) ((hD.sub (ws' := ([((ad 0), .inr (4, [.ref (ad 1), .ref (ad 2), .ref (ad 3), .ref (ad 4), .ref (ad 5), .ref (ad 6), .ref (ad 7), .ref (ad 8), .ref (ad 9), .int 0])), ((ad 9), .inl (k 0, 5, .inl (fun _ => 0)))] : va_W)) [0, 2] (by decide) rfl).weaken (fun _ _ _ _ => trivial)) (k_refuse2 l D k ad _) gV_RX6_61 (by decide +kernel) rfl rfl ⟨Nat.le_of_ble_eq_true rfl, Nat.le_of_ble_eq_true rfl⟩ rfl rfl rfl rfl (Nat.le_of_ble_eq_true rfl) dX6_left_22 ⟨Nat.le_of_ble_eq_true rfl, Nat.le_of_ble_eq_true rfl⟩) (fun r_6 u_4 H locs h_5 hP hD hS => ?_)
  have h_5 : r_6 = -2 := h_5
  have hP : va_P D gx_cl [((ad 1), .inr (0, [.ref (ad 10), .ref (ad 11), .ref (ad 12), .ref (ad 13), .ref (ad 14), .ref (ad 15), .ref (ad 16), .ref (ad 17), .ref (ad 18), .int 0, .int 0, .int 0, .int 0, .int 1, .int 0, .int 0, .int 0]))] H := hP
  have hD : va_D A [((ad 1), .inr (0, [.ref (ad 10), .ref (ad 11), .ref (ad 12), .ref (ad 13), .ref (ad 14), .ref (ad 15), .ref (ad 16), .ref (ad 17), .ref (ad 18), .int 0, .int 0, .int 0, .int 0, .int 1, .int 0, .int 0, .int 0]))] := hD
  have eh_5 := h_5
  subst eh_5
  exact gx_retI C (u := ()) gx_nil gx_noneD hS (rfl) dX6_left_25
set_option maxHeartbeats 4000000 in
set_option maxRecDepth 100000 in
theorem x_here (l : Launch) (D : va_G) (k : Nat → ClassId) (ad : Nat → Nat) (av : Int32) (sz : Nat) : Met l yX6_here (.code yX6_here cX6_here 2 (some .int) :: gx_T) ({ frames := 2, cells := 0, slots := 0, locals := 43 }) (gx_Pre D k [.ref (ad 0), .int av] ([((ad 0), .inr (4, [.ref (ad 1), .ref (ad 2), .ref (ad 3), .ref (ad 4), .ref (ad 5), .ref (ad 6), .ref (ad 7), .ref (ad 8), .ref (ad 9), .int 0])), ((ad 1), .inr (0, [.ref (ad 10), .ref (ad 11), .ref (ad 12), .ref (ad 13), .ref (ad 14), .ref (ad 15), .ref (ad 16), .ref (ad 17), .ref (ad 18), .int 0, .int 0, .int 0, .int 0, .int 1, .int 0, .int 0, .int 0])), ((ad 9), .inl (k 0, 5, .inl (fun _ => 0)))]) sz) (gx_Qi D (fun (r : Int32) (u : Unit) => r = -2) (fun (u : Unit) => ([] : va_W)) (va_A ([((ad 0), .inr (4, [.ref (ad 1), .ref (ad 2), .ref (ad 3), .ref (ad 4), .ref (ad 5), .ref (ad 6), .ref (ad 7), .ref (ad 8), .ref (ad 9), .int 0])), ((ad 1), .inr (0, [.ref (ad 10), .ref (ad 11), .ref (ad 12), .ref (ad 13), .ref (ad 14), .ref (ad 15), .ref (ad 16), .ref (ad 17), .ref (ad 18), .int 0, .int 0, .int 0, .int 0, .int 1, .int 0, .int 0, .int 0])), ((ad 9), .inl (k 0, 5, .inl (fun _ => 0)))]) sz)) 0 0 (va_A ([((ad 0), .inr (4, [.ref (ad 1), .ref (ad 2), .ref (ad 3), .ref (ad 4), .ref (ad 5), .ref (ad 6), .ref (ad 7), .ref (ad 8), .ref (ad 9), .int 0])), ((ad 1), .inr (0, [.ref (ad 10), .ref (ad 11), .ref (ad 12), .ref (ad 13), .ref (ad 14), .ref (ad 15), .ref (ad 16), .ref (ad 17), .ref (ad 18), .int 0, .int 0, .int 0, .int 0, .int 1, .int 0, .int 0, .int 0])), ((ad 9), .inl (k 0, 5, .inl (fun _ => 0)))]) sz) := by
  refine gx_metE (Qc := fun A => gx_Qi D (fun (r : Int32) (u : Unit) => r = -2) (fun (u : Unit) => ([] : va_W)) A) (by decide) (Nat.le_of_ble_eq_true rfl) ?_
  intro p e s m below meth c A ls C hA hP hD hK hS hl
  obtain ⟨hx, hb, hr, hml, hown, hT, hlk, hin⟩ := id C
  have hown : s.vm.findClass RX6 = some m.cls := hown
  have hl : lv_has ls 2 [(0, .ref (ad 0)), (1, .int av)] := hl
  refine lv_aload_n hx hb dX6_here_0 rfl (lv_at hl 0 rfl) ?_
  refine lv_iload_n hx hb dX6_here_1 rfl (lv_at hl 1 rfl) ?_
  refine gx_pi hP hS (gx_runV (na := 1) (As := [.int av]) (rest := []) (ci := 4) C hl.1 hK (gx_subP (wc := ([((ad 0), .inr (4, [.ref (ad 1), .ref (ad 2), .ref (ad 3), .ref (ad 4), .ref (ad 5), .ref (ad 6), .ref (ad 7), .ref (ad 8), .ref (ad 9), .int 0])), ((ad 1), .inr (0, [.ref (ad 10), .ref (ad 11), .ref (ad 12), .ref (ad 13), .ref (ad 14), .ref (ad 15), .ref (ad 16), .ref (ad 17), .ref (ad 18), .int 0, .int 0, .int 0, .int 0, .int 1, .int 0, .int 0, .int 0]))] : va_W)) hP [0, 1] rfl) ((hD.sub (ws' := ([((ad 0), .inr (4, [.ref (ad 1), .ref (ad 2), .ref (ad 3), .ref (ad 4), .ref (ad 5), .ref (ad 6), .ref (ad 7), .ref (ad 8), .ref (ad 9), .int 0])), ((ad 1), .inr (0, [.ref (ad 10), .ref (ad 11), .ref (ad 12), .ref (ad 13), .ref (ad 14), .ref (ad 15), .ref (ad 16), .ref (ad 17), .ref (ad 18), .int 0, .int 0, .int 0, .int 0, .int 1, .int 0, .int 0, .int 0]))] : va_W)) [0, 1] (by decide) rfl).weaken (fun _ _ _ _ => trivial)) (k_isOne l D k ad av _) gV_RX6_182 (by decide +kernel) rfl rfl ⟨Nat.le_of_ble_eq_true rfl, Nat.le_of_ble_eq_true rfl⟩ rfl rfl rfl rfl (Nat.le_of_ble_eq_true rfl) dX6_here_2 ⟨Nat.le_of_ble_eq_true rfl, Nat.le_of_ble_eq_true rfl⟩) (fun r_2 H locs c_1 hP hS => ?_)
  have c_1 : r_2 = 0 := c_1
  subst c_1
  refine lv_if_eq (tgt := 19) hx hb dX6_here_5 (by decide) (fun c_3 => ?_) (fun c_3 => absurd (by decide) c_3)
  refine lv_aload_n hx hb dX6_here_19 rfl (lv_at hl 0 rfl) ?_
  refine lv_bipush (v := (-2)) hx hb dX6_here_20 (by decide) ?_
  refine gx_ei (wc := ([((ad 0), .inr (4, [.ref (ad 1), .ref (ad 2), .ref (ad 3), .ref (ad 4), .ref (ad 5), .ref (ad 6), .ref (ad 7), .ref (ad 8), .ref (ad 9), .int 0])), ((ad 9), .inl (k 0, 5, .inl (fun _ => 0)))] : va_W)) (wr := [((ad 1), .inr (0, [.ref (ad 10), .ref (ad 11), .ref (ad 12), .ref (ad 13), .ref (ad 14), .ref (ad 15), .ref (ad 16), .ref (ad 17), .ref (ad 18), .int 0, .int 0, .int 0, .int 0, .int 1, .int 0, .int 0, .int 0]))]) (isC := [0, 2]) (isR := [1]) hP hD hS hA rfl rfl (by decide) (by decide) (gx_runV (na := 1) (As := [.int (-2)]) (rest := []) (ci := 4) C hl.1 hK (gx_subP (wc := ([((ad 0), .inr (4, [.ref (ad 1), .ref (ad 2), .ref (ad 3), .ref (ad 4), .ref (ad 5), .ref (ad 6), .ref (ad 7), .ref (ad 8), .ref (ad 9), .int 0])), ((ad 9), .inl (k 0, 5, .inl (fun _ => 0)))] : va_W)) hP [0, 2] rfl) ((hD.sub (ws' := ([((ad 0), .inr (4, [.ref (ad 1), .ref (ad 2), .ref (ad 3), .ref (ad 4), .ref (ad 5), .ref (ad 6), .ref (ad 7), .ref (ad 8), .ref (ad 9), .int 0])), ((ad 9), .inl (k 0, 5, .inl (fun _ => 0)))] : va_W)) [0, 2] (by decide) rfl).weaken (fun _ _ _ _ => trivial)) (k_refuse2 l D k ad _) gV_RX6_61 (by decide +kernel) rfl rfl ⟨Nat.le_of_ble_eq_true rfl, Nat.le_of_ble_eq_true rfl⟩ rfl rfl rfl rfl (Nat.le_of_ble_eq_true rfl) dX6_here_22 ⟨Nat.le_of_ble_eq_true rfl, Nat.le_of_ble_eq_true rfl⟩) (fun r_6 u_4 H locs h_5 hP hD hS => ?_)
  have h_5 : r_6 = -2 := h_5
  have hP : va_P D gx_cl [((ad 1), .inr (0, [.ref (ad 10), .ref (ad 11), .ref (ad 12), .ref (ad 13), .ref (ad 14), .ref (ad 15), .ref (ad 16), .ref (ad 17), .ref (ad 18), .int 0, .int 0, .int 0, .int 0, .int 1, .int 0, .int 0, .int 0]))] H := hP
  have hD : va_D A [((ad 1), .inr (0, [.ref (ad 10), .ref (ad 11), .ref (ad 12), .ref (ad 13), .ref (ad 14), .ref (ad 15), .ref (ad 16), .ref (ad 17), .ref (ad 18), .int 0, .int 0, .int 0, .int 0, .int 1, .int 0, .int 0, .int 0]))] := hD
  have eh_5 := h_5
  subst eh_5
  exact gx_retI C (u := ()) gx_nil gx_noneD hS (rfl) dX6_here_25
set_option maxHeartbeats 4000000 in
set_option maxRecDepth 100000 in
theorem x_reach (l : Launch) (D : va_G) (k : Nat → ClassId) (ad : Nat → Nat) (av : Int32) (sz : Nat) : Met l yX6_reach (.code yX6_reach cX6_reach 2 (some .int) :: gx_T) ({ frames := 2, cells := 0, slots := 0, locals := 43 }) (gx_Pre D k [.ref (ad 0), .int av] ([((ad 0), .inr (4, [.ref (ad 1), .ref (ad 2), .ref (ad 3), .ref (ad 4), .ref (ad 5), .ref (ad 6), .ref (ad 7), .ref (ad 8), .ref (ad 9), .int 0])), ((ad 1), .inr (0, [.ref (ad 10), .ref (ad 11), .ref (ad 12), .ref (ad 13), .ref (ad 14), .ref (ad 15), .ref (ad 16), .ref (ad 17), .ref (ad 18), .int 0, .int 0, .int 0, .int 0, .int 1, .int 0, .int 0, .int 0])), ((ad 9), .inl (k 0, 5, .inl (fun _ => 0)))]) sz) (gx_Qi D (fun (r : Int32) (u : Unit) => r = -2) (fun (u : Unit) => ([] : va_W)) (va_A ([((ad 0), .inr (4, [.ref (ad 1), .ref (ad 2), .ref (ad 3), .ref (ad 4), .ref (ad 5), .ref (ad 6), .ref (ad 7), .ref (ad 8), .ref (ad 9), .int 0])), ((ad 1), .inr (0, [.ref (ad 10), .ref (ad 11), .ref (ad 12), .ref (ad 13), .ref (ad 14), .ref (ad 15), .ref (ad 16), .ref (ad 17), .ref (ad 18), .int 0, .int 0, .int 0, .int 0, .int 1, .int 0, .int 0, .int 0])), ((ad 9), .inl (k 0, 5, .inl (fun _ => 0)))]) sz)) 0 0 (va_A ([((ad 0), .inr (4, [.ref (ad 1), .ref (ad 2), .ref (ad 3), .ref (ad 4), .ref (ad 5), .ref (ad 6), .ref (ad 7), .ref (ad 8), .ref (ad 9), .int 0])), ((ad 1), .inr (0, [.ref (ad 10), .ref (ad 11), .ref (ad 12), .ref (ad 13), .ref (ad 14), .ref (ad 15), .ref (ad 16), .ref (ad 17), .ref (ad 18), .int 0, .int 0, .int 0, .int 0, .int 1, .int 0, .int 0, .int 0])), ((ad 9), .inl (k 0, 5, .inl (fun _ => 0)))]) sz) := by
  refine gx_metE (Qc := fun A => gx_Qi D (fun (r : Int32) (u : Unit) => r = -2) (fun (u : Unit) => ([] : va_W)) A) (by decide) (Nat.le_of_ble_eq_true rfl) ?_
  intro p e s m below meth c A ls C hA hP hD hK hS hl
  obtain ⟨hx, hb, hr, hml, hown, hT, hlk, hin⟩ := id C
  have hown : s.vm.findClass RX6 = some m.cls := hown
  have hl : lv_has ls 2 [(0, .ref (ad 0)), (1, .int av)] := hl
  refine lv_aload_n hx hb dX6_reach_0 rfl (lv_at hl 0 rfl) ?_
  refine lv_iload_n hx hb dX6_reach_1 rfl (lv_at hl 1 rfl) ?_
  refine gx_pi hP hS (gx_runV (na := 1) (As := [.int av]) (rest := []) (ci := 4) C hl.1 hK (gx_subP (wc := ([((ad 0), .inr (4, [.ref (ad 1), .ref (ad 2), .ref (ad 3), .ref (ad 4), .ref (ad 5), .ref (ad 6), .ref (ad 7), .ref (ad 8), .ref (ad 9), .int 0])), ((ad 1), .inr (0, [.ref (ad 10), .ref (ad 11), .ref (ad 12), .ref (ad 13), .ref (ad 14), .ref (ad 15), .ref (ad 16), .ref (ad 17), .ref (ad 18), .int 0, .int 0, .int 0, .int 0, .int 1, .int 0, .int 0, .int 0]))] : va_W)) hP [0, 1] rfl) ((hD.sub (ws' := ([((ad 0), .inr (4, [.ref (ad 1), .ref (ad 2), .ref (ad 3), .ref (ad 4), .ref (ad 5), .ref (ad 6), .ref (ad 7), .ref (ad 8), .ref (ad 9), .int 0])), ((ad 1), .inr (0, [.ref (ad 10), .ref (ad 11), .ref (ad 12), .ref (ad 13), .ref (ad 14), .ref (ad 15), .ref (ad 16), .ref (ad 17), .ref (ad 18), .int 0, .int 0, .int 0, .int 0, .int 1, .int 0, .int 0, .int 0]))] : va_W)) [0, 1] (by decide) rfl).weaken (fun _ _ _ _ => trivial)) (k_isOne l D k ad av _) gV_RX6_182 (by decide +kernel) rfl rfl ⟨Nat.le_of_ble_eq_true rfl, Nat.le_of_ble_eq_true rfl⟩ rfl rfl rfl rfl (Nat.le_of_ble_eq_true rfl) dX6_reach_2 ⟨Nat.le_of_ble_eq_true rfl, Nat.le_of_ble_eq_true rfl⟩) (fun r_2 H locs c_1 hP hS => ?_)
  have c_1 : r_2 = 0 := c_1
  subst c_1
  refine lv_if_eq (tgt := 19) hx hb dX6_reach_5 (by decide) (fun c_3 => ?_) (fun c_3 => absurd (by decide) c_3)
  refine lv_aload_n hx hb dX6_reach_19 rfl (lv_at hl 0 rfl) ?_
  refine lv_bipush (v := (-2)) hx hb dX6_reach_20 (by decide) ?_
  refine gx_ei (wc := ([((ad 0), .inr (4, [.ref (ad 1), .ref (ad 2), .ref (ad 3), .ref (ad 4), .ref (ad 5), .ref (ad 6), .ref (ad 7), .ref (ad 8), .ref (ad 9), .int 0])), ((ad 9), .inl (k 0, 5, .inl (fun _ => 0)))] : va_W)) (wr := [((ad 1), .inr (0, [.ref (ad 10), .ref (ad 11), .ref (ad 12), .ref (ad 13), .ref (ad 14), .ref (ad 15), .ref (ad 16), .ref (ad 17), .ref (ad 18), .int 0, .int 0, .int 0, .int 0, .int 1, .int 0, .int 0, .int 0]))]) (isC := [0, 2]) (isR := [1]) hP hD hS hA rfl rfl (by decide) (by decide) (gx_runV (na := 1) (As := [.int (-2)]) (rest := []) (ci := 4) C hl.1 hK (gx_subP (wc := ([((ad 0), .inr (4, [.ref (ad 1), .ref (ad 2), .ref (ad 3), .ref (ad 4), .ref (ad 5), .ref (ad 6), .ref (ad 7), .ref (ad 8), .ref (ad 9), .int 0])), ((ad 9), .inl (k 0, 5, .inl (fun _ => 0)))] : va_W)) hP [0, 2] rfl) ((hD.sub (ws' := ([((ad 0), .inr (4, [.ref (ad 1), .ref (ad 2), .ref (ad 3), .ref (ad 4), .ref (ad 5), .ref (ad 6), .ref (ad 7), .ref (ad 8), .ref (ad 9), .int 0])), ((ad 9), .inl (k 0, 5, .inl (fun _ => 0)))] : va_W)) [0, 2] (by decide) rfl).weaken (fun _ _ _ _ => trivial)) (k_refuse2 l D k ad _) gV_RX6_61 (by decide +kernel) rfl rfl ⟨Nat.le_of_ble_eq_true rfl, Nat.le_of_ble_eq_true rfl⟩ rfl rfl rfl rfl (Nat.le_of_ble_eq_true rfl) dX6_reach_22 ⟨Nat.le_of_ble_eq_true rfl, Nat.le_of_ble_eq_true rfl⟩) (fun r_6 u_4 H locs h_5 hP hD hS => ?_)
  have h_5 : r_6 = -2 := h_5
  have hP : va_P D gx_cl [((ad 1), .inr (0, [.ref (ad 10), .ref (ad 11), .ref (ad 12), .ref (ad 13), .ref (ad 14), .ref (ad 15), .ref (ad 16), .ref (ad 17), .ref (ad 18), .int 0, .int 0, .int 0, .int 0, .int 1, .int 0, .int 0, .int 0]))] H := hP
  have hD : va_D A [((ad 1), .inr (0, [.ref (ad 10), .ref (ad 11), .ref (ad 12), .ref (ad 13), .ref (ad 14), .ref (ad 15), .ref (ad 16), .ref (ad 17), .ref (ad 18), .int 0, .int 0, .int 0, .int 0, .int 1, .int 0, .int 0, .int 0]))] := hD
  have eh_5 := h_5
  subst eh_5
  exact gx_retI C (u := ()) gx_nil gx_noneD hS (rfl) dX6_reach_25
set_option maxHeartbeats 4000000 in
set_option maxRecDepth 100000 in
theorem x_safe (l : Launch) (D : va_G) (k : Nat → ClassId) (ad : Nat → Nat) (av : Int32) (sz : Nat) : Met l yX6_safe (.code yX6_safe cX6_safe 2 (some .int) :: gx_T) ({ frames := 2, cells := 0, slots := 0, locals := 43 }) (gx_Pre D k [.ref (ad 0), .int av] ([((ad 0), .inr (4, [.ref (ad 1), .ref (ad 2), .ref (ad 3), .ref (ad 4), .ref (ad 5), .ref (ad 6), .ref (ad 7), .ref (ad 8), .ref (ad 9), .int 0])), ((ad 1), .inr (0, [.ref (ad 10), .ref (ad 11), .ref (ad 12), .ref (ad 13), .ref (ad 14), .ref (ad 15), .ref (ad 16), .ref (ad 17), .ref (ad 18), .int 0, .int 0, .int 0, .int 0, .int 1, .int 0, .int 0, .int 0])), ((ad 9), .inl (k 0, 5, .inl (fun _ => 0)))]) sz) (gx_Qi D (fun (r : Int32) (u : Unit) => r = -2) (fun (u : Unit) => ([] : va_W)) (va_A ([((ad 0), .inr (4, [.ref (ad 1), .ref (ad 2), .ref (ad 3), .ref (ad 4), .ref (ad 5), .ref (ad 6), .ref (ad 7), .ref (ad 8), .ref (ad 9), .int 0])), ((ad 1), .inr (0, [.ref (ad 10), .ref (ad 11), .ref (ad 12), .ref (ad 13), .ref (ad 14), .ref (ad 15), .ref (ad 16), .ref (ad 17), .ref (ad 18), .int 0, .int 0, .int 0, .int 0, .int 1, .int 0, .int 0, .int 0])), ((ad 9), .inl (k 0, 5, .inl (fun _ => 0)))]) sz)) 0 0 (va_A ([((ad 0), .inr (4, [.ref (ad 1), .ref (ad 2), .ref (ad 3), .ref (ad 4), .ref (ad 5), .ref (ad 6), .ref (ad 7), .ref (ad 8), .ref (ad 9), .int 0])), ((ad 1), .inr (0, [.ref (ad 10), .ref (ad 11), .ref (ad 12), .ref (ad 13), .ref (ad 14), .ref (ad 15), .ref (ad 16), .ref (ad 17), .ref (ad 18), .int 0, .int 0, .int 0, .int 0, .int 1, .int 0, .int 0, .int 0])), ((ad 9), .inl (k 0, 5, .inl (fun _ => 0)))]) sz) := by
  refine gx_metE (Qc := fun A => gx_Qi D (fun (r : Int32) (u : Unit) => r = -2) (fun (u : Unit) => ([] : va_W)) A) (by decide) (Nat.le_of_ble_eq_true rfl) ?_
  intro p e s m below meth c A ls C hA hP hD hK hS hl
  obtain ⟨hx, hb, hr, hml, hown, hT, hlk, hin⟩ := id C
  have hown : s.vm.findClass RX6 = some m.cls := hown
  have hl : lv_has ls 2 [(0, .ref (ad 0)), (1, .int av)] := hl
  refine lv_aload_n hx hb dX6_safe_0 rfl (lv_at hl 0 rfl) ?_
  refine lv_iload_n hx hb dX6_safe_1 rfl (lv_at hl 1 rfl) ?_
  refine gx_pi hP hS (gx_runV (na := 1) (As := [.int av]) (rest := []) (ci := 4) C hl.1 hK (gx_subP (wc := ([((ad 0), .inr (4, [.ref (ad 1), .ref (ad 2), .ref (ad 3), .ref (ad 4), .ref (ad 5), .ref (ad 6), .ref (ad 7), .ref (ad 8), .ref (ad 9), .int 0])), ((ad 1), .inr (0, [.ref (ad 10), .ref (ad 11), .ref (ad 12), .ref (ad 13), .ref (ad 14), .ref (ad 15), .ref (ad 16), .ref (ad 17), .ref (ad 18), .int 0, .int 0, .int 0, .int 0, .int 1, .int 0, .int 0, .int 0]))] : va_W)) hP [0, 1] rfl) ((hD.sub (ws' := ([((ad 0), .inr (4, [.ref (ad 1), .ref (ad 2), .ref (ad 3), .ref (ad 4), .ref (ad 5), .ref (ad 6), .ref (ad 7), .ref (ad 8), .ref (ad 9), .int 0])), ((ad 1), .inr (0, [.ref (ad 10), .ref (ad 11), .ref (ad 12), .ref (ad 13), .ref (ad 14), .ref (ad 15), .ref (ad 16), .ref (ad 17), .ref (ad 18), .int 0, .int 0, .int 0, .int 0, .int 1, .int 0, .int 0, .int 0]))] : va_W)) [0, 1] (by decide) rfl).weaken (fun _ _ _ _ => trivial)) (k_isOne l D k ad av _) gV_RX6_182 (by decide +kernel) rfl rfl ⟨Nat.le_of_ble_eq_true rfl, Nat.le_of_ble_eq_true rfl⟩ rfl rfl rfl rfl (Nat.le_of_ble_eq_true rfl) dX6_safe_2 ⟨Nat.le_of_ble_eq_true rfl, Nat.le_of_ble_eq_true rfl⟩) (fun r_2 H locs c_1 hP hS => ?_)
  have c_1 : r_2 = 0 := c_1
  subst c_1
  refine lv_if_ne (tgt := 15) hx hb dX6_safe_5 (by decide) (fun c_3 => absurd (by decide) c_3) (fun c_3 => ?_)
  refine lv_aload_n hx hb dX6_safe_8 rfl (lv_at hl 0 rfl) ?_
  refine lv_bipush (v := (-2)) hx hb dX6_safe_9 (by decide) ?_
  refine gx_ei (wc := ([((ad 0), .inr (4, [.ref (ad 1), .ref (ad 2), .ref (ad 3), .ref (ad 4), .ref (ad 5), .ref (ad 6), .ref (ad 7), .ref (ad 8), .ref (ad 9), .int 0])), ((ad 9), .inl (k 0, 5, .inl (fun _ => 0)))] : va_W)) (wr := [((ad 1), .inr (0, [.ref (ad 10), .ref (ad 11), .ref (ad 12), .ref (ad 13), .ref (ad 14), .ref (ad 15), .ref (ad 16), .ref (ad 17), .ref (ad 18), .int 0, .int 0, .int 0, .int 0, .int 1, .int 0, .int 0, .int 0]))]) (isC := [0, 2]) (isR := [1]) hP hD hS hA rfl rfl (by decide) (by decide) (gx_runV (na := 1) (As := [.int (-2)]) (rest := []) (ci := 4) C hl.1 hK (gx_subP (wc := ([((ad 0), .inr (4, [.ref (ad 1), .ref (ad 2), .ref (ad 3), .ref (ad 4), .ref (ad 5), .ref (ad 6), .ref (ad 7), .ref (ad 8), .ref (ad 9), .int 0])), ((ad 9), .inl (k 0, 5, .inl (fun _ => 0)))] : va_W)) hP [0, 2] rfl) ((hD.sub (ws' := ([((ad 0), .inr (4, [.ref (ad 1), .ref (ad 2), .ref (ad 3), .ref (ad 4), .ref (ad 5), .ref (ad 6), .ref (ad 7), .ref (ad 8), .ref (ad 9), .int 0])), ((ad 9), .inl (k 0, 5, .inl (fun _ => 0)))] : va_W)) [0, 2] (by decide) rfl).weaken (fun _ _ _ _ => trivial)) (k_refuse2 l D k ad _) gV_RX6_61 (by decide +kernel) rfl rfl ⟨Nat.le_of_ble_eq_true rfl, Nat.le_of_ble_eq_true rfl⟩ rfl rfl rfl rfl (Nat.le_of_ble_eq_true rfl) dX6_safe_11 ⟨Nat.le_of_ble_eq_true rfl, Nat.le_of_ble_eq_true rfl⟩) (fun r_6 u_4 H locs h_5 hP hD hS => ?_)
  have h_5 : r_6 = -2 := h_5
  have hP : va_P D gx_cl [((ad 1), .inr (0, [.ref (ad 10), .ref (ad 11), .ref (ad 12), .ref (ad 13), .ref (ad 14), .ref (ad 15), .ref (ad 16), .ref (ad 17), .ref (ad 18), .int 0, .int 0, .int 0, .int 0, .int 1, .int 0, .int 0, .int 0]))] H := hP
  have hD : va_D A [((ad 1), .inr (0, [.ref (ad 10), .ref (ad 11), .ref (ad 12), .ref (ad 13), .ref (ad 14), .ref (ad 15), .ref (ad 16), .ref (ad 17), .ref (ad 18), .int 0, .int 0, .int 0, .int 0, .int 1, .int 0, .int 0, .int 0]))] := hD
  have eh_5 := h_5
  subst eh_5
  exact gx_retI C (u := ()) gx_nil gx_noneD hS (rfl) dX6_safe_14
set_option maxHeartbeats 4000000 in
set_option maxRecDepth 100000 in
theorem x_go (l : Launch) (D : va_G) (k : Nat → ClassId) (ad : Nat → Nat) (av : Int32) (bv : Int32) (sz : Nat) : Met l yX6_go (.code yX6_go cX6_go 3 (some .int) :: gx_T) ({ frames := 2, cells := 0, slots := 0, locals := 43 }) (gx_Pre D k [.ref (ad 0), .int av, .int bv] ([((ad 0), .inr (4, [.ref (ad 1), .ref (ad 2), .ref (ad 3), .ref (ad 4), .ref (ad 5), .ref (ad 6), .ref (ad 7), .ref (ad 8), .ref (ad 9), .int 0])), ((ad 1), .inr (0, [.ref (ad 10), .ref (ad 11), .ref (ad 12), .ref (ad 13), .ref (ad 14), .ref (ad 15), .ref (ad 16), .ref (ad 17), .ref (ad 18), .int 0, .int 0, .int 0, .int 0, .int 1, .int 0, .int 0, .int 0])), ((ad 9), .inl (k 0, 5, .inl (fun _ => 0)))]) sz) (gx_Qi D (fun (r : Int32) (u : Unit) => r = -2) (fun (u : Unit) => ([] : va_W)) (va_A ([((ad 0), .inr (4, [.ref (ad 1), .ref (ad 2), .ref (ad 3), .ref (ad 4), .ref (ad 5), .ref (ad 6), .ref (ad 7), .ref (ad 8), .ref (ad 9), .int 0])), ((ad 1), .inr (0, [.ref (ad 10), .ref (ad 11), .ref (ad 12), .ref (ad 13), .ref (ad 14), .ref (ad 15), .ref (ad 16), .ref (ad 17), .ref (ad 18), .int 0, .int 0, .int 0, .int 0, .int 1, .int 0, .int 0, .int 0])), ((ad 9), .inl (k 0, 5, .inl (fun _ => 0)))]) sz)) 0 0 (va_A ([((ad 0), .inr (4, [.ref (ad 1), .ref (ad 2), .ref (ad 3), .ref (ad 4), .ref (ad 5), .ref (ad 6), .ref (ad 7), .ref (ad 8), .ref (ad 9), .int 0])), ((ad 1), .inr (0, [.ref (ad 10), .ref (ad 11), .ref (ad 12), .ref (ad 13), .ref (ad 14), .ref (ad 15), .ref (ad 16), .ref (ad 17), .ref (ad 18), .int 0, .int 0, .int 0, .int 0, .int 1, .int 0, .int 0, .int 0])), ((ad 9), .inl (k 0, 5, .inl (fun _ => 0)))]) sz) := by
  refine gx_metE (Qc := fun A => gx_Qi D (fun (r : Int32) (u : Unit) => r = -2) (fun (u : Unit) => ([] : va_W)) A) (by decide) (Nat.le_of_ble_eq_true rfl) ?_
  intro p e s m below meth c A ls C hA hP hD hK hS hl
  obtain ⟨hx, hb, hr, hml, hown, hT, hlk, hin⟩ := id C
  have hown : s.vm.findClass RX6 = some m.cls := hown
  have hl : lv_has ls 3 [(0, .ref (ad 0)), (1, .int av), (2, .int bv)] := hl
  refine lv_aload_n hx hb dX6_go_0 rfl (lv_at hl 0 rfl) ?_
  refine lv_iload_n hx hb dX6_go_1 rfl (lv_at hl 1 rfl) ?_
  refine gx_pi hP hS (gx_runV (na := 1) (As := [.int av]) (rest := []) (ci := 4) C hl.1 hK (gx_subP (wc := ([((ad 0), .inr (4, [.ref (ad 1), .ref (ad 2), .ref (ad 3), .ref (ad 4), .ref (ad 5), .ref (ad 6), .ref (ad 7), .ref (ad 8), .ref (ad 9), .int 0])), ((ad 1), .inr (0, [.ref (ad 10), .ref (ad 11), .ref (ad 12), .ref (ad 13), .ref (ad 14), .ref (ad 15), .ref (ad 16), .ref (ad 17), .ref (ad 18), .int 0, .int 0, .int 0, .int 0, .int 1, .int 0, .int 0, .int 0]))] : va_W)) hP [0, 1] rfl) ((hD.sub (ws' := ([((ad 0), .inr (4, [.ref (ad 1), .ref (ad 2), .ref (ad 3), .ref (ad 4), .ref (ad 5), .ref (ad 6), .ref (ad 7), .ref (ad 8), .ref (ad 9), .int 0])), ((ad 1), .inr (0, [.ref (ad 10), .ref (ad 11), .ref (ad 12), .ref (ad 13), .ref (ad 14), .ref (ad 15), .ref (ad 16), .ref (ad 17), .ref (ad 18), .int 0, .int 0, .int 0, .int 0, .int 1, .int 0, .int 0, .int 0]))] : va_W)) [0, 1] (by decide) rfl).weaken (fun _ _ _ _ => trivial)) (k_isOne l D k ad av _) gV_RX6_182 (by decide +kernel) rfl rfl ⟨Nat.le_of_ble_eq_true rfl, Nat.le_of_ble_eq_true rfl⟩ rfl rfl rfl rfl (Nat.le_of_ble_eq_true rfl) dX6_go_2 ⟨Nat.le_of_ble_eq_true rfl, Nat.le_of_ble_eq_true rfl⟩) (fun r_2 H locs c_1 hP hS => ?_)
  have c_1 : r_2 = 0 := c_1
  subst c_1
  refine lv_if_eq (tgt := 16) hx hb dX6_go_5 (by decide) (fun c_3 => ?_) (fun c_3 => absurd (by decide) c_3)
  refine lv_aload_n hx hb dX6_go_16 rfl (lv_at hl 0 rfl) ?_
  refine lv_bipush (v := (-2)) hx hb dX6_go_17 (by decide) ?_
  refine gx_ei (wc := ([((ad 0), .inr (4, [.ref (ad 1), .ref (ad 2), .ref (ad 3), .ref (ad 4), .ref (ad 5), .ref (ad 6), .ref (ad 7), .ref (ad 8), .ref (ad 9), .int 0])), ((ad 9), .inl (k 0, 5, .inl (fun _ => 0)))] : va_W)) (wr := [((ad 1), .inr (0, [.ref (ad 10), .ref (ad 11), .ref (ad 12), .ref (ad 13), .ref (ad 14), .ref (ad 15), .ref (ad 16), .ref (ad 17), .ref (ad 18), .int 0, .int 0, .int 0, .int 0, .int 1, .int 0, .int 0, .int 0]))]) (isC := [0, 2]) (isR := [1]) hP hD hS hA rfl rfl (by decide) (by decide) (gx_runV (na := 1) (As := [.int (-2)]) (rest := []) (ci := 4) C hl.1 hK (gx_subP (wc := ([((ad 0), .inr (4, [.ref (ad 1), .ref (ad 2), .ref (ad 3), .ref (ad 4), .ref (ad 5), .ref (ad 6), .ref (ad 7), .ref (ad 8), .ref (ad 9), .int 0])), ((ad 9), .inl (k 0, 5, .inl (fun _ => 0)))] : va_W)) hP [0, 2] rfl) ((hD.sub (ws' := ([((ad 0), .inr (4, [.ref (ad 1), .ref (ad 2), .ref (ad 3), .ref (ad 4), .ref (ad 5), .ref (ad 6), .ref (ad 7), .ref (ad 8), .ref (ad 9), .int 0])), ((ad 9), .inl (k 0, 5, .inl (fun _ => 0)))] : va_W)) [0, 2] (by decide) rfl).weaken (fun _ _ _ _ => trivial)) (k_refuse2 l D k ad _) gV_RX6_61 (by decide +kernel) rfl rfl ⟨Nat.le_of_ble_eq_true rfl, Nat.le_of_ble_eq_true rfl⟩ rfl rfl rfl rfl (Nat.le_of_ble_eq_true rfl) dX6_go_19 ⟨Nat.le_of_ble_eq_true rfl, Nat.le_of_ble_eq_true rfl⟩) (fun r_6 u_4 H locs h_5 hP hD hS => ?_)
  have h_5 : r_6 = -2 := h_5
  have hP : va_P D gx_cl [((ad 1), .inr (0, [.ref (ad 10), .ref (ad 11), .ref (ad 12), .ref (ad 13), .ref (ad 14), .ref (ad 15), .ref (ad 16), .ref (ad 17), .ref (ad 18), .int 0, .int 0, .int 0, .int 0, .int 1, .int 0, .int 0, .int 0]))] H := hP
  have hD : va_D A [((ad 1), .inr (0, [.ref (ad 10), .ref (ad 11), .ref (ad 12), .ref (ad 13), .ref (ad 14), .ref (ad 15), .ref (ad 16), .ref (ad 17), .ref (ad 18), .int 0, .int 0, .int 0, .int 0, .int 1, .int 0, .int 0, .int 0]))] := hD
  have eh_5 := h_5
  subst eh_5
  exact gx_retI C (u := ()) gx_nil gx_noneD hS (rfl) dX6_go_22
set_option maxHeartbeats 4000000 in
set_option maxRecDepth 100000 in
theorem x_next (l : Launch) (D : va_G) (k : Nat → ClassId) (ad : Nat → Nat) (av : Int32) (bv : Int32) (sz : Nat) : Met l yX6_next (.code yX6_next cX6_next 4 (some .int) :: gx_T) ({ frames := 2, cells := 0, slots := 0, locals := 43 }) (gx_Pre D k [.ref (ad 0), .int av, .int bv] ([((ad 0), .inr (4, [.ref (ad 1), .ref (ad 2), .ref (ad 3), .ref (ad 4), .ref (ad 5), .ref (ad 6), .ref (ad 7), .ref (ad 8), .ref (ad 9), .int 0])), ((ad 1), .inr (0, [.ref (ad 10), .ref (ad 11), .ref (ad 12), .ref (ad 13), .ref (ad 14), .ref (ad 15), .ref (ad 16), .ref (ad 17), .ref (ad 18), .int 0, .int 0, .int 0, .int 0, .int 1, .int 0, .int 0, .int 0])), ((ad 9), .inl (k 0, 5, .inl (fun _ => 0)))]) sz) (gx_Qi D (fun (r : Int32) (u : Unit) => r = -2) (fun (u : Unit) => ([] : va_W)) (va_A ([((ad 0), .inr (4, [.ref (ad 1), .ref (ad 2), .ref (ad 3), .ref (ad 4), .ref (ad 5), .ref (ad 6), .ref (ad 7), .ref (ad 8), .ref (ad 9), .int 0])), ((ad 1), .inr (0, [.ref (ad 10), .ref (ad 11), .ref (ad 12), .ref (ad 13), .ref (ad 14), .ref (ad 15), .ref (ad 16), .ref (ad 17), .ref (ad 18), .int 0, .int 0, .int 0, .int 0, .int 1, .int 0, .int 0, .int 0])), ((ad 9), .inl (k 0, 5, .inl (fun _ => 0)))]) sz)) 0 0 (va_A ([((ad 0), .inr (4, [.ref (ad 1), .ref (ad 2), .ref (ad 3), .ref (ad 4), .ref (ad 5), .ref (ad 6), .ref (ad 7), .ref (ad 8), .ref (ad 9), .int 0])), ((ad 1), .inr (0, [.ref (ad 10), .ref (ad 11), .ref (ad 12), .ref (ad 13), .ref (ad 14), .ref (ad 15), .ref (ad 16), .ref (ad 17), .ref (ad 18), .int 0, .int 0, .int 0, .int 0, .int 1, .int 0, .int 0, .int 0])), ((ad 9), .inl (k 0, 5, .inl (fun _ => 0)))]) sz) := by
  refine gx_metE (Qc := fun A => gx_Qi D (fun (r : Int32) (u : Unit) => r = -2) (fun (u : Unit) => ([] : va_W)) A) (by decide) (Nat.le_of_ble_eq_true rfl) ?_
  intro p e s m below meth c A ls C hA hP hD hK hS hl
  obtain ⟨hx, hb, hr, hml, hown, hT, hlk, hin⟩ := id C
  have hown : s.vm.findClass RX6 = some m.cls := hown
  have hl : lv_has ls 4 [(0, .ref (ad 0)), (1, .int av), (2, .int bv)] := hl
  refine lv_iload_n hx hb dX6_next_0 rfl (lv_at hl 1 rfl) ?_
  refine gx_pi hP hS (gx_runS (na := 1) (As := [.int av]) (rest := []) C hl.1 hK (gx_subP (wc := ([] : va_W)) hP [] rfl) ((hD.sub (ws' := ([] : va_W)) [] (by decide) rfl).weaken (fun _ _ _ _ => trivial)) (k_isShelf l D k av _) gS_RX6_53 (by decide +kernel) rfl rfl ⟨Nat.le_of_ble_eq_true rfl, Nat.le_of_ble_eq_true rfl⟩ rfl rfl (Nat.le_of_ble_eq_true rfl) dX6_next_1 ⟨Nat.le_of_ble_eq_true rfl, Nat.le_of_ble_eq_true rfl⟩) (fun r_2 H locs pc_1 hP hS => ?_)
  have oc_1 : r_2 = 1 ∧ gx_b av 0 7 = true ∨ r_2 = 0 ∧ gx_b av 0 7 = false := pc_1
  clear pc_1
  rcases oc_1 with ⟨rfl, c_1⟩ | ⟨rfl, c_1⟩
  · refine lv_if_eq (tgt := 15) hx hb dX6_next_4 (by decide) (fun c_3 => absurd c_3 (by decide)) (fun c_3 => ?_)
    refine lv_aload_n hx hb dX6_next_7 rfl (lv_at hl 0 rfl) ?_
    refine lv_iload_n hx hb dX6_next_8 rfl (lv_at hl 2 rfl) ?_
    refine gx_pi hP hS (gx_runV (na := 1) (As := [.int bv]) (rest := []) (ci := 4) C hl.1 hK (gx_subP (wc := ([((ad 0), .inr (4, [.ref (ad 1), .ref (ad 2), .ref (ad 3), .ref (ad 4), .ref (ad 5), .ref (ad 6), .ref (ad 7), .ref (ad 8), .ref (ad 9), .int 0])), ((ad 1), .inr (0, [.ref (ad 10), .ref (ad 11), .ref (ad 12), .ref (ad 13), .ref (ad 14), .ref (ad 15), .ref (ad 16), .ref (ad 17), .ref (ad 18), .int 0, .int 0, .int 0, .int 0, .int 1, .int 0, .int 0, .int 0]))] : va_W)) hP [0, 1] rfl) ((hD.sub (ws' := ([((ad 0), .inr (4, [.ref (ad 1), .ref (ad 2), .ref (ad 3), .ref (ad 4), .ref (ad 5), .ref (ad 6), .ref (ad 7), .ref (ad 8), .ref (ad 9), .int 0])), ((ad 1), .inr (0, [.ref (ad 10), .ref (ad 11), .ref (ad 12), .ref (ad 13), .ref (ad 14), .ref (ad 15), .ref (ad 16), .ref (ad 17), .ref (ad 18), .int 0, .int 0, .int 0, .int 0, .int 1, .int 0, .int 0, .int 0]))] : va_W)) [0, 1] (by decide) rfl).weaken (fun _ _ _ _ => trivial)) (k_isOne l D k ad bv _) gV_RX6_182 (by decide +kernel) rfl rfl ⟨Nat.le_of_ble_eq_true rfl, Nat.le_of_ble_eq_true rfl⟩ rfl rfl rfl rfl (Nat.le_of_ble_eq_true rfl) dX6_next_9 ⟨Nat.le_of_ble_eq_true rfl, Nat.le_of_ble_eq_true rfl⟩) (fun r_5 H locs c_4 hP hS => ?_)
    have c_4 : r_5 = 0 := c_4
    subst c_4
    refine lv_if_ne (tgt := 22) hx hb dX6_next_12 (by decide) (fun c_6 => absurd (by decide) c_6) (fun c_6 => ?_)
    refine lv_aload_n hx hb dX6_next_15 rfl (lv_at hl 0 rfl) ?_
    refine lv_bipush (v := (-2)) hx hb dX6_next_16 (by decide) ?_
    refine gx_ei (wc := ([((ad 0), .inr (4, [.ref (ad 1), .ref (ad 2), .ref (ad 3), .ref (ad 4), .ref (ad 5), .ref (ad 6), .ref (ad 7), .ref (ad 8), .ref (ad 9), .int 0])), ((ad 9), .inl (k 0, 5, .inl (fun _ => 0)))] : va_W)) (wr := [((ad 1), .inr (0, [.ref (ad 10), .ref (ad 11), .ref (ad 12), .ref (ad 13), .ref (ad 14), .ref (ad 15), .ref (ad 16), .ref (ad 17), .ref (ad 18), .int 0, .int 0, .int 0, .int 0, .int 1, .int 0, .int 0, .int 0]))]) (isC := [0, 2]) (isR := [1]) hP hD hS hA rfl rfl (by decide) (by decide) (gx_runV (na := 1) (As := [.int (-2)]) (rest := []) (ci := 4) C hl.1 hK (gx_subP (wc := ([((ad 0), .inr (4, [.ref (ad 1), .ref (ad 2), .ref (ad 3), .ref (ad 4), .ref (ad 5), .ref (ad 6), .ref (ad 7), .ref (ad 8), .ref (ad 9), .int 0])), ((ad 9), .inl (k 0, 5, .inl (fun _ => 0)))] : va_W)) hP [0, 2] rfl) ((hD.sub (ws' := ([((ad 0), .inr (4, [.ref (ad 1), .ref (ad 2), .ref (ad 3), .ref (ad 4), .ref (ad 5), .ref (ad 6), .ref (ad 7), .ref (ad 8), .ref (ad 9), .int 0])), ((ad 9), .inl (k 0, 5, .inl (fun _ => 0)))] : va_W)) [0, 2] (by decide) rfl).weaken (fun _ _ _ _ => trivial)) (k_refuse2 l D k ad _) gV_RX6_61 (by decide +kernel) rfl rfl ⟨Nat.le_of_ble_eq_true rfl, Nat.le_of_ble_eq_true rfl⟩ rfl rfl rfl rfl (Nat.le_of_ble_eq_true rfl) dX6_next_18 ⟨Nat.le_of_ble_eq_true rfl, Nat.le_of_ble_eq_true rfl⟩) (fun r_9 u_7 H locs h_8 hP hD hS => ?_)
    have h_8 : r_9 = -2 := h_8
    have hP : va_P D gx_cl [((ad 1), .inr (0, [.ref (ad 10), .ref (ad 11), .ref (ad 12), .ref (ad 13), .ref (ad 14), .ref (ad 15), .ref (ad 16), .ref (ad 17), .ref (ad 18), .int 0, .int 0, .int 0, .int 0, .int 1, .int 0, .int 0, .int 0]))] H := hP
    have hD : va_D A [((ad 1), .inr (0, [.ref (ad 10), .ref (ad 11), .ref (ad 12), .ref (ad 13), .ref (ad 14), .ref (ad 15), .ref (ad 16), .ref (ad 17), .ref (ad 18), .int 0, .int 0, .int 0, .int 0, .int 1, .int 0, .int 0, .int 0]))] := hD
    have eh_8 := h_8
    subst eh_8
    exact gx_retI C (u := ()) gx_nil gx_noneD hS (rfl) dX6_next_21
  · refine lv_if_eq (tgt := 15) hx hb dX6_next_4 (by decide) (fun c_11 => ?_) (fun c_11 => absurd (by decide) c_11)
    refine lv_aload_n hx hb dX6_next_15 rfl (lv_at hl 0 rfl) ?_
    refine lv_bipush (v := (-2)) hx hb dX6_next_16 (by decide) ?_
    refine gx_ei (wc := ([((ad 0), .inr (4, [.ref (ad 1), .ref (ad 2), .ref (ad 3), .ref (ad 4), .ref (ad 5), .ref (ad 6), .ref (ad 7), .ref (ad 8), .ref (ad 9), .int 0])), ((ad 9), .inl (k 0, 5, .inl (fun _ => 0)))] : va_W)) (wr := [((ad 1), .inr (0, [.ref (ad 10), .ref (ad 11), .ref (ad 12), .ref (ad 13), .ref (ad 14), .ref (ad 15), .ref (ad 16), .ref (ad 17), .ref (ad 18), .int 0, .int 0, .int 0, .int 0, .int 1, .int 0, .int 0, .int 0]))]) (isC := [0, 2]) (isR := [1]) hP hD hS hA rfl rfl (by decide) (by decide) (gx_runV (na := 1) (As := [.int (-2)]) (rest := []) (ci := 4) C hl.1 hK (gx_subP (wc := ([((ad 0), .inr (4, [.ref (ad 1), .ref (ad 2), .ref (ad 3), .ref (ad 4), .ref (ad 5), .ref (ad 6), .ref (ad 7), .ref (ad 8), .ref (ad 9), .int 0])), ((ad 9), .inl (k 0, 5, .inl (fun _ => 0)))] : va_W)) hP [0, 2] rfl) ((hD.sub (ws' := ([((ad 0), .inr (4, [.ref (ad 1), .ref (ad 2), .ref (ad 3), .ref (ad 4), .ref (ad 5), .ref (ad 6), .ref (ad 7), .ref (ad 8), .ref (ad 9), .int 0])), ((ad 9), .inl (k 0, 5, .inl (fun _ => 0)))] : va_W)) [0, 2] (by decide) rfl).weaken (fun _ _ _ _ => trivial)) (k_refuse2 l D k ad _) gV_RX6_61 (by decide +kernel) rfl rfl ⟨Nat.le_of_ble_eq_true rfl, Nat.le_of_ble_eq_true rfl⟩ rfl rfl rfl rfl (Nat.le_of_ble_eq_true rfl) dX6_next_18 ⟨Nat.le_of_ble_eq_true rfl, Nat.le_of_ble_eq_true rfl⟩) (fun r_14 u_12 H locs h_13 hP hD hS => ?_)
    have h_13 : r_14 = -2 := h_13
    have hP : va_P D gx_cl [((ad 1), .inr (0, [.ref (ad 10), .ref (ad 11), .ref (ad 12), .ref (ad 13), .ref (ad 14), .ref (ad 15), .ref (ad 16), .ref (ad 17), .ref (ad 18), .int 0, .int 0, .int 0, .int 0, .int 1, .int 0, .int 0, .int 0]))] H := hP
    have hD : va_D A [((ad 1), .inr (0, [.ref (ad 10), .ref (ad 11), .ref (ad 12), .ref (ad 13), .ref (ad 14), .ref (ad 15), .ref (ad 16), .ref (ad 17), .ref (ad 18), .int 0, .int 0, .int 0, .int 0, .int 1, .int 0, .int 0, .int 0]))] := hD
    have eh_13 := h_13
    subst eh_13
    exact gx_retI C (u := ()) gx_nil gx_noneD hS (rfl) dX6_next_21
set_option maxHeartbeats 4000000 in
set_option maxRecDepth 100000 in
theorem x_run (l : Launch) (D : va_G) (k : Nat → ClassId) (ad : Nat → Nat) (av : Int32) (bv : Int32) (cv : Int32) (dv : Int32) (sz : Nat) : Met l yX6_run (.code yX6_run cX6_run 7 (some .int) :: gx_T) ({ frames := 2, cells := 0, slots := 0, locals := 43 }) (gx_Pre D k [.ref (ad 0), .int av, .int bv, .int cv, .int dv] ([((ad 0), .inr (4, [.ref (ad 1), .ref (ad 2), .ref (ad 3), .ref (ad 4), .ref (ad 5), .ref (ad 6), .ref (ad 7), .ref (ad 8), .ref (ad 9), .int 0])), ((ad 1), .inr (0, [.ref (ad 10), .ref (ad 11), .ref (ad 12), .ref (ad 13), .ref (ad 14), .ref (ad 15), .ref (ad 16), .ref (ad 17), .ref (ad 18), .int 0, .int 0, .int 0, .int 0, .int 1, .int 0, .int 0, .int 0])), ((ad 9), .inl (k 0, 5, .inl (fun _ => 0)))]) sz) (gx_Qi D (fun (r : Int32) (u : Unit) => r = -2) (fun (u : Unit) => ([] : va_W)) (va_A ([((ad 0), .inr (4, [.ref (ad 1), .ref (ad 2), .ref (ad 3), .ref (ad 4), .ref (ad 5), .ref (ad 6), .ref (ad 7), .ref (ad 8), .ref (ad 9), .int 0])), ((ad 1), .inr (0, [.ref (ad 10), .ref (ad 11), .ref (ad 12), .ref (ad 13), .ref (ad 14), .ref (ad 15), .ref (ad 16), .ref (ad 17), .ref (ad 18), .int 0, .int 0, .int 0, .int 0, .int 1, .int 0, .int 0, .int 0])), ((ad 9), .inl (k 0, 5, .inl (fun _ => 0)))]) sz)) 0 0 (va_A ([((ad 0), .inr (4, [.ref (ad 1), .ref (ad 2), .ref (ad 3), .ref (ad 4), .ref (ad 5), .ref (ad 6), .ref (ad 7), .ref (ad 8), .ref (ad 9), .int 0])), ((ad 1), .inr (0, [.ref (ad 10), .ref (ad 11), .ref (ad 12), .ref (ad 13), .ref (ad 14), .ref (ad 15), .ref (ad 16), .ref (ad 17), .ref (ad 18), .int 0, .int 0, .int 0, .int 0, .int 1, .int 0, .int 0, .int 0])), ((ad 9), .inl (k 0, 5, .inl (fun _ => 0)))]) sz) := by
  refine gx_metE (Qc := fun A => gx_Qi D (fun (r : Int32) (u : Unit) => r = -2) (fun (u : Unit) => ([] : va_W)) A) (by decide) (Nat.le_of_ble_eq_true rfl) ?_
  intro p e s m below meth c A ls C hA hP hD hK hS hl
  obtain ⟨hx, hb, hr, hml, hown, hT, hlk, hin⟩ := id C
  have hown : s.vm.findClass RX6 = some m.cls := hown
  have hl : lv_has ls 7 [(0, .ref (ad 0)), (1, .int av), (2, .int bv), (3, .int cv), (4, .int dv)] := hl
  refine lv_iload_n hx hb dX6_run_0 rfl (lv_at hl 1 rfl) ?_
  refine gx_pi hP hS (gx_runS (na := 1) (As := [.int av]) (rest := []) C hl.1 hK (gx_subP (wc := ([] : va_W)) hP [] rfl) ((hD.sub (ws' := ([] : va_W)) [] (by decide) rfl).weaken (fun _ _ _ _ => trivial)) (k_isShelf l D k av _) gS_RX6_53 (by decide +kernel) rfl rfl ⟨Nat.le_of_ble_eq_true rfl, Nat.le_of_ble_eq_true rfl⟩ rfl rfl (Nat.le_of_ble_eq_true rfl) dX6_run_1 ⟨Nat.le_of_ble_eq_true rfl, Nat.le_of_ble_eq_true rfl⟩) (fun r_2 H locs pc_1 hP hS => ?_)
  have oc_1 : r_2 = 1 ∧ gx_b av 0 7 = true ∨ r_2 = 0 ∧ gx_b av 0 7 = false := pc_1
  clear pc_1
  rcases oc_1 with ⟨rfl, c_1⟩ | ⟨rfl, c_1⟩
  · refine lv_if_eq (tgt := 35) hx hb dX6_run_4 (by decide) (fun c_3 => absurd c_3 (by decide)) (fun c_3 => ?_)
    refine lv_aload_n hx hb dX6_run_7 rfl (lv_at hl 0 rfl) ?_
    refine lv_iload_n hx hb dX6_run_8 rfl (lv_at hl 2 rfl) ?_
    refine gx_pi hP hS (gx_runV (na := 1) (As := [.int bv]) (rest := []) (ci := 4) C hl.1 hK (gx_subP (wc := ([((ad 0), .inr (4, [.ref (ad 1), .ref (ad 2), .ref (ad 3), .ref (ad 4), .ref (ad 5), .ref (ad 6), .ref (ad 7), .ref (ad 8), .ref (ad 9), .int 0])), ((ad 1), .inr (0, [.ref (ad 10), .ref (ad 11), .ref (ad 12), .ref (ad 13), .ref (ad 14), .ref (ad 15), .ref (ad 16), .ref (ad 17), .ref (ad 18), .int 0, .int 0, .int 0, .int 0, .int 1, .int 0, .int 0, .int 0]))] : va_W)) hP [0, 1] rfl) ((hD.sub (ws' := ([((ad 0), .inr (4, [.ref (ad 1), .ref (ad 2), .ref (ad 3), .ref (ad 4), .ref (ad 5), .ref (ad 6), .ref (ad 7), .ref (ad 8), .ref (ad 9), .int 0])), ((ad 1), .inr (0, [.ref (ad 10), .ref (ad 11), .ref (ad 12), .ref (ad 13), .ref (ad 14), .ref (ad 15), .ref (ad 16), .ref (ad 17), .ref (ad 18), .int 0, .int 0, .int 0, .int 0, .int 1, .int 0, .int 0, .int 0]))] : va_W)) [0, 1] (by decide) rfl).weaken (fun _ _ _ _ => trivial)) (k_isOne l D k ad bv _) gV_RX6_182 (by decide +kernel) rfl rfl ⟨Nat.le_of_ble_eq_true rfl, Nat.le_of_ble_eq_true rfl⟩ rfl rfl rfl rfl (Nat.le_of_ble_eq_true rfl) dX6_run_9 ⟨Nat.le_of_ble_eq_true rfl, Nat.le_of_ble_eq_true rfl⟩) (fun r_5 H locs c_4 hP hS => ?_)
    have c_4 : r_5 = 0 := c_4
    subst c_4
    refine lv_if_eq (tgt := 35) hx hb dX6_run_12 (by decide) (fun c_6 => ?_) (fun c_6 => absurd (by decide) c_6)
    refine lv_aload_n hx hb dX6_run_35 rfl (lv_at hl 0 rfl) ?_
    refine lv_bipush (v := (-2)) hx hb dX6_run_36 (by decide) ?_
    refine gx_ei (wc := ([((ad 0), .inr (4, [.ref (ad 1), .ref (ad 2), .ref (ad 3), .ref (ad 4), .ref (ad 5), .ref (ad 6), .ref (ad 7), .ref (ad 8), .ref (ad 9), .int 0])), ((ad 9), .inl (k 0, 5, .inl (fun _ => 0)))] : va_W)) (wr := [((ad 1), .inr (0, [.ref (ad 10), .ref (ad 11), .ref (ad 12), .ref (ad 13), .ref (ad 14), .ref (ad 15), .ref (ad 16), .ref (ad 17), .ref (ad 18), .int 0, .int 0, .int 0, .int 0, .int 1, .int 0, .int 0, .int 0]))]) (isC := [0, 2]) (isR := [1]) hP hD hS hA rfl rfl (by decide) (by decide) (gx_runV (na := 1) (As := [.int (-2)]) (rest := []) (ci := 4) C hl.1 hK (gx_subP (wc := ([((ad 0), .inr (4, [.ref (ad 1), .ref (ad 2), .ref (ad 3), .ref (ad 4), .ref (ad 5), .ref (ad 6), .ref (ad 7), .ref (ad 8), .ref (ad 9), .int 0])), ((ad 9), .inl (k 0, 5, .inl (fun _ => 0)))] : va_W)) hP [0, 2] rfl) ((hD.sub (ws' := ([((ad 0), .inr (4, [.ref (ad 1), .ref (ad 2), .ref (ad 3), .ref (ad 4), .ref (ad 5), .ref (ad 6), .ref (ad 7), .ref (ad 8), .ref (ad 9), .int 0])), ((ad 9), .inl (k 0, 5, .inl (fun _ => 0)))] : va_W)) [0, 2] (by decide) rfl).weaken (fun _ _ _ _ => trivial)) (k_refuse2 l D k ad _) gV_RX6_61 (by decide +kernel) rfl rfl ⟨Nat.le_of_ble_eq_true rfl, Nat.le_of_ble_eq_true rfl⟩ rfl rfl rfl rfl (Nat.le_of_ble_eq_true rfl) dX6_run_38 ⟨Nat.le_of_ble_eq_true rfl, Nat.le_of_ble_eq_true rfl⟩) (fun r_9 u_7 H locs h_8 hP hD hS => ?_)
    have h_8 : r_9 = -2 := h_8
    have hP : va_P D gx_cl [((ad 1), .inr (0, [.ref (ad 10), .ref (ad 11), .ref (ad 12), .ref (ad 13), .ref (ad 14), .ref (ad 15), .ref (ad 16), .ref (ad 17), .ref (ad 18), .int 0, .int 0, .int 0, .int 0, .int 1, .int 0, .int 0, .int 0]))] H := hP
    have hD : va_D A [((ad 1), .inr (0, [.ref (ad 10), .ref (ad 11), .ref (ad 12), .ref (ad 13), .ref (ad 14), .ref (ad 15), .ref (ad 16), .ref (ad 17), .ref (ad 18), .int 0, .int 0, .int 0, .int 0, .int 1, .int 0, .int 0, .int 0]))] := hD
    have eh_8 := h_8
    subst eh_8
    exact gx_retI C (u := ()) gx_nil gx_noneD hS (rfl) dX6_run_41
  · refine lv_if_eq (tgt := 35) hx hb dX6_run_4 (by decide) (fun c_11 => ?_) (fun c_11 => absurd (by decide) c_11)
    refine lv_aload_n hx hb dX6_run_35 rfl (lv_at hl 0 rfl) ?_
    refine lv_bipush (v := (-2)) hx hb dX6_run_36 (by decide) ?_
    refine gx_ei (wc := ([((ad 0), .inr (4, [.ref (ad 1), .ref (ad 2), .ref (ad 3), .ref (ad 4), .ref (ad 5), .ref (ad 6), .ref (ad 7), .ref (ad 8), .ref (ad 9), .int 0])), ((ad 9), .inl (k 0, 5, .inl (fun _ => 0)))] : va_W)) (wr := [((ad 1), .inr (0, [.ref (ad 10), .ref (ad 11), .ref (ad 12), .ref (ad 13), .ref (ad 14), .ref (ad 15), .ref (ad 16), .ref (ad 17), .ref (ad 18), .int 0, .int 0, .int 0, .int 0, .int 1, .int 0, .int 0, .int 0]))]) (isC := [0, 2]) (isR := [1]) hP hD hS hA rfl rfl (by decide) (by decide) (gx_runV (na := 1) (As := [.int (-2)]) (rest := []) (ci := 4) C hl.1 hK (gx_subP (wc := ([((ad 0), .inr (4, [.ref (ad 1), .ref (ad 2), .ref (ad 3), .ref (ad 4), .ref (ad 5), .ref (ad 6), .ref (ad 7), .ref (ad 8), .ref (ad 9), .int 0])), ((ad 9), .inl (k 0, 5, .inl (fun _ => 0)))] : va_W)) hP [0, 2] rfl) ((hD.sub (ws' := ([((ad 0), .inr (4, [.ref (ad 1), .ref (ad 2), .ref (ad 3), .ref (ad 4), .ref (ad 5), .ref (ad 6), .ref (ad 7), .ref (ad 8), .ref (ad 9), .int 0])), ((ad 9), .inl (k 0, 5, .inl (fun _ => 0)))] : va_W)) [0, 2] (by decide) rfl).weaken (fun _ _ _ _ => trivial)) (k_refuse2 l D k ad _) gV_RX6_61 (by decide +kernel) rfl rfl ⟨Nat.le_of_ble_eq_true rfl, Nat.le_of_ble_eq_true rfl⟩ rfl rfl rfl rfl (Nat.le_of_ble_eq_true rfl) dX6_run_38 ⟨Nat.le_of_ble_eq_true rfl, Nat.le_of_ble_eq_true rfl⟩) (fun r_14 u_12 H locs h_13 hP hD hS => ?_)
    have h_13 : r_14 = -2 := h_13
    have hP : va_P D gx_cl [((ad 1), .inr (0, [.ref (ad 10), .ref (ad 11), .ref (ad 12), .ref (ad 13), .ref (ad 14), .ref (ad 15), .ref (ad 16), .ref (ad 17), .ref (ad 18), .int 0, .int 0, .int 0, .int 0, .int 1, .int 0, .int 0, .int 0]))] H := hP
    have hD : va_D A [((ad 1), .inr (0, [.ref (ad 10), .ref (ad 11), .ref (ad 12), .ref (ad 13), .ref (ad 14), .ref (ad 15), .ref (ad 16), .ref (ad 17), .ref (ad 18), .int 0, .int 0, .int 0, .int 0, .int 1, .int 0, .int 0, .int 0]))] := hD
    have eh_13 := h_13
    subst eh_13
    exact gx_retI C (u := ()) gx_nil gx_noneD hS (rfl) dX6_run_41
set_option maxHeartbeats 4000000 in
set_option maxRecDepth 100000 in
theorem x_head (l : Launch) (D : va_G) (k : Nat → ClassId) (ad : Nat → Nat) (av : Int32) (sz : Nat) : Met l yX6_head (.code yX6_head cX6_head 6 (some .int) :: gx_T) ({ frames := 2, cells := 0, slots := 0, locals := 43 }) (gx_Pre D k [.ref (ad 0), .int av] ([((ad 0), .inr (4, [.ref (ad 1), .ref (ad 2), .ref (ad 3), .ref (ad 4), .ref (ad 5), .ref (ad 6), .ref (ad 7), .ref (ad 8), .ref (ad 9), .int 0])), ((ad 1), .inr (0, [.ref (ad 10), .ref (ad 11), .ref (ad 12), .ref (ad 13), .ref (ad 14), .ref (ad 15), .ref (ad 16), .ref (ad 17), .ref (ad 18), .int 0, .int 0, .int 0, .int 0, .int 1, .int 0, .int 0, .int 0])), ((ad 9), .inl (k 0, 5, .inl (fun _ => 0)))]) sz) (gx_Qi D (fun (r : Int32) (u : Unit) => r = -2) (fun (u : Unit) => ([] : va_W)) (va_A ([((ad 0), .inr (4, [.ref (ad 1), .ref (ad 2), .ref (ad 3), .ref (ad 4), .ref (ad 5), .ref (ad 6), .ref (ad 7), .ref (ad 8), .ref (ad 9), .int 0])), ((ad 1), .inr (0, [.ref (ad 10), .ref (ad 11), .ref (ad 12), .ref (ad 13), .ref (ad 14), .ref (ad 15), .ref (ad 16), .ref (ad 17), .ref (ad 18), .int 0, .int 0, .int 0, .int 0, .int 1, .int 0, .int 0, .int 0])), ((ad 9), .inl (k 0, 5, .inl (fun _ => 0)))]) sz)) 0 0 (va_A ([((ad 0), .inr (4, [.ref (ad 1), .ref (ad 2), .ref (ad 3), .ref (ad 4), .ref (ad 5), .ref (ad 6), .ref (ad 7), .ref (ad 8), .ref (ad 9), .int 0])), ((ad 1), .inr (0, [.ref (ad 10), .ref (ad 11), .ref (ad 12), .ref (ad 13), .ref (ad 14), .ref (ad 15), .ref (ad 16), .ref (ad 17), .ref (ad 18), .int 0, .int 0, .int 0, .int 0, .int 1, .int 0, .int 0, .int 0])), ((ad 9), .inl (k 0, 5, .inl (fun _ => 0)))]) sz) := by
  refine gx_metE (Qc := fun A => gx_Qi D (fun (r : Int32) (u : Unit) => r = -2) (fun (u : Unit) => ([] : va_W)) A) (by decide) (Nat.le_of_ble_eq_true rfl) ?_
  intro p e s m below meth c A ls C hA hP hD hK hS hl
  obtain ⟨hx, hb, hr, hml, hown, hT, hlk, hin⟩ := id C
  have hown : s.vm.findClass RX6 = some m.cls := hown
  have hl : lv_has ls 6 [(0, .ref (ad 0)), (1, .int av)] := hl
  refine lv_aload_n hx hb dX6_head_0 rfl (lv_at hl 0 rfl) ?_
  refine lv_iload_n hx hb dX6_head_1 rfl (lv_at hl 1 rfl) ?_
  refine gx_pi hP hS (gx_runV (na := 1) (As := [.int av]) (rest := []) (ci := 4) C hl.1 hK (gx_subP (wc := ([((ad 0), .inr (4, [.ref (ad 1), .ref (ad 2), .ref (ad 3), .ref (ad 4), .ref (ad 5), .ref (ad 6), .ref (ad 7), .ref (ad 8), .ref (ad 9), .int 0])), ((ad 1), .inr (0, [.ref (ad 10), .ref (ad 11), .ref (ad 12), .ref (ad 13), .ref (ad 14), .ref (ad 15), .ref (ad 16), .ref (ad 17), .ref (ad 18), .int 0, .int 0, .int 0, .int 0, .int 1, .int 0, .int 0, .int 0]))] : va_W)) hP [0, 1] rfl) ((hD.sub (ws' := ([((ad 0), .inr (4, [.ref (ad 1), .ref (ad 2), .ref (ad 3), .ref (ad 4), .ref (ad 5), .ref (ad 6), .ref (ad 7), .ref (ad 8), .ref (ad 9), .int 0])), ((ad 1), .inr (0, [.ref (ad 10), .ref (ad 11), .ref (ad 12), .ref (ad 13), .ref (ad 14), .ref (ad 15), .ref (ad 16), .ref (ad 17), .ref (ad 18), .int 0, .int 0, .int 0, .int 0, .int 1, .int 0, .int 0, .int 0]))] : va_W)) [0, 1] (by decide) rfl).weaken (fun _ _ _ _ => trivial)) (k_isOne l D k ad av _) gV_RX6_182 (by decide +kernel) rfl rfl ⟨Nat.le_of_ble_eq_true rfl, Nat.le_of_ble_eq_true rfl⟩ rfl rfl rfl rfl (Nat.le_of_ble_eq_true rfl) dX6_head_2 ⟨Nat.le_of_ble_eq_true rfl, Nat.le_of_ble_eq_true rfl⟩) (fun r_2 H locs c_1 hP hS => ?_)
  have c_1 : r_2 = 0 := c_1
  subst c_1
  refine lv_if_ne (tgt := 15) hx hb dX6_head_5 (by decide) (fun c_3 => absurd (by decide) c_3) (fun c_3 => ?_)
  refine lv_aload_n hx hb dX6_head_8 rfl (lv_at hl 0 rfl) ?_
  refine lv_bipush (v := (-2)) hx hb dX6_head_9 (by decide) ?_
  refine gx_ei (wc := ([((ad 0), .inr (4, [.ref (ad 1), .ref (ad 2), .ref (ad 3), .ref (ad 4), .ref (ad 5), .ref (ad 6), .ref (ad 7), .ref (ad 8), .ref (ad 9), .int 0])), ((ad 9), .inl (k 0, 5, .inl (fun _ => 0)))] : va_W)) (wr := [((ad 1), .inr (0, [.ref (ad 10), .ref (ad 11), .ref (ad 12), .ref (ad 13), .ref (ad 14), .ref (ad 15), .ref (ad 16), .ref (ad 17), .ref (ad 18), .int 0, .int 0, .int 0, .int 0, .int 1, .int 0, .int 0, .int 0]))]) (isC := [0, 2]) (isR := [1]) hP hD hS hA rfl rfl (by decide) (by decide) (gx_runV (na := 1) (As := [.int (-2)]) (rest := []) (ci := 4) C hl.1 hK (gx_subP (wc := ([((ad 0), .inr (4, [.ref (ad 1), .ref (ad 2), .ref (ad 3), .ref (ad 4), .ref (ad 5), .ref (ad 6), .ref (ad 7), .ref (ad 8), .ref (ad 9), .int 0])), ((ad 9), .inl (k 0, 5, .inl (fun _ => 0)))] : va_W)) hP [0, 2] rfl) ((hD.sub (ws' := ([((ad 0), .inr (4, [.ref (ad 1), .ref (ad 2), .ref (ad 3), .ref (ad 4), .ref (ad 5), .ref (ad 6), .ref (ad 7), .ref (ad 8), .ref (ad 9), .int 0])), ((ad 9), .inl (k 0, 5, .inl (fun _ => 0)))] : va_W)) [0, 2] (by decide) rfl).weaken (fun _ _ _ _ => trivial)) (k_refuse2 l D k ad _) gV_RX6_61 (by decide +kernel) rfl rfl ⟨Nat.le_of_ble_eq_true rfl, Nat.le_of_ble_eq_true rfl⟩ rfl rfl rfl rfl (Nat.le_of_ble_eq_true rfl) dX6_head_11 ⟨Nat.le_of_ble_eq_true rfl, Nat.le_of_ble_eq_true rfl⟩) (fun r_6 u_4 H locs h_5 hP hD hS => ?_)
  have h_5 : r_6 = -2 := h_5
  have hP : va_P D gx_cl [((ad 1), .inr (0, [.ref (ad 10), .ref (ad 11), .ref (ad 12), .ref (ad 13), .ref (ad 14), .ref (ad 15), .ref (ad 16), .ref (ad 17), .ref (ad 18), .int 0, .int 0, .int 0, .int 0, .int 1, .int 0, .int 0, .int 0]))] H := hP
  have hD : va_D A [((ad 1), .inr (0, [.ref (ad 10), .ref (ad 11), .ref (ad 12), .ref (ad 13), .ref (ad 14), .ref (ad 15), .ref (ad 16), .ref (ad 17), .ref (ad 18), .int 0, .int 0, .int 0, .int 0, .int 1, .int 0, .int 0, .int 0]))] := hD
  have eh_5 := h_5
  subst eh_5
  exact gx_retI C (u := ()) gx_nil gx_noneD hS (rfl) dX6_head_14
set_option maxHeartbeats 4000000 in
set_option maxRecDepth 100000 in
theorem x_lives (l : Launch) (D : va_G) (k : Nat → ClassId) (ad : Nat → Nat) (av : Int32) (bv : Int32) (cv : Int32) (sz : Nat) : Met l yX6_lives (.code yX6_lives cX6_lives 5 (some .int) :: gx_T) ({ frames := 2, cells := 0, slots := 0, locals := 43 }) (gx_Pre D k [.ref (ad 0), .int av, .int bv, .int cv] ([((ad 0), .inr (4, [.ref (ad 1), .ref (ad 2), .ref (ad 3), .ref (ad 4), .ref (ad 5), .ref (ad 6), .ref (ad 7), .ref (ad 8), .ref (ad 9), .int 0])), ((ad 1), .inr (0, [.ref (ad 10), .ref (ad 11), .ref (ad 12), .ref (ad 13), .ref (ad 14), .ref (ad 15), .ref (ad 16), .ref (ad 17), .ref (ad 18), .int 0, .int 0, .int 0, .int 0, .int 1, .int 0, .int 0, .int 0])), ((ad 9), .inl (k 0, 5, .inl (fun _ => 0)))]) sz) (gx_Qi D (fun (r : Int32) (u : Unit) => r = -2) (fun (u : Unit) => ([] : va_W)) (va_A ([((ad 0), .inr (4, [.ref (ad 1), .ref (ad 2), .ref (ad 3), .ref (ad 4), .ref (ad 5), .ref (ad 6), .ref (ad 7), .ref (ad 8), .ref (ad 9), .int 0])), ((ad 1), .inr (0, [.ref (ad 10), .ref (ad 11), .ref (ad 12), .ref (ad 13), .ref (ad 14), .ref (ad 15), .ref (ad 16), .ref (ad 17), .ref (ad 18), .int 0, .int 0, .int 0, .int 0, .int 1, .int 0, .int 0, .int 0])), ((ad 9), .inl (k 0, 5, .inl (fun _ => 0)))]) sz)) 0 0 (va_A ([((ad 0), .inr (4, [.ref (ad 1), .ref (ad 2), .ref (ad 3), .ref (ad 4), .ref (ad 5), .ref (ad 6), .ref (ad 7), .ref (ad 8), .ref (ad 9), .int 0])), ((ad 1), .inr (0, [.ref (ad 10), .ref (ad 11), .ref (ad 12), .ref (ad 13), .ref (ad 14), .ref (ad 15), .ref (ad 16), .ref (ad 17), .ref (ad 18), .int 0, .int 0, .int 0, .int 0, .int 1, .int 0, .int 0, .int 0])), ((ad 9), .inl (k 0, 5, .inl (fun _ => 0)))]) sz) := by
  refine gx_metE (Qc := fun A => gx_Qi D (fun (r : Int32) (u : Unit) => r = -2) (fun (u : Unit) => ([] : va_W)) A) (by decide) (Nat.le_of_ble_eq_true rfl) ?_
  intro p e s m below meth c A ls C hA hP hD hK hS hl
  obtain ⟨hx, hb, hr, hml, hown, hT, hlk, hin⟩ := id C
  have hown : s.vm.findClass RX6 = some m.cls := hown
  have hl : lv_has ls 5 [(0, .ref (ad 0)), (1, .int av), (2, .int bv), (3, .int cv)] := hl
  refine lv_iload_n hx hb dX6_lives_0 rfl (lv_at hl 1 rfl) ?_
  refine gx_pi hP hS (gx_runS (na := 1) (As := [.int av]) (rest := []) C hl.1 hK (gx_subP (wc := ([] : va_W)) hP [] rfl) ((hD.sub (ws' := ([] : va_W)) [] (by decide) rfl).weaken (fun _ _ _ _ => trivial)) (k_isShelf l D k av _) gS_RX6_53 (by decide +kernel) rfl rfl ⟨Nat.le_of_ble_eq_true rfl, Nat.le_of_ble_eq_true rfl⟩ rfl rfl (Nat.le_of_ble_eq_true rfl) dX6_lives_1 ⟨Nat.le_of_ble_eq_true rfl, Nat.le_of_ble_eq_true rfl⟩) (fun r_2 H locs pc_1 hP hS => ?_)
  have oc_1 : r_2 = 1 ∧ gx_b av 0 7 = true ∨ r_2 = 0 ∧ gx_b av 0 7 = false := pc_1
  clear pc_1
  rcases oc_1 with ⟨rfl, c_1⟩ | ⟨rfl, c_1⟩
  · refine lv_if_eq (tgt := 25) hx hb dX6_lives_4 (by decide) (fun c_3 => absurd c_3 (by decide)) (fun c_3 => ?_)
    refine lv_aload_n hx hb dX6_lives_7 rfl (lv_at hl 0 rfl) ?_
    refine lv_iload_n hx hb dX6_lives_8 rfl (lv_at hl 2 rfl) ?_
    refine gx_pi hP hS (gx_runV (na := 1) (As := [.int bv]) (rest := []) (ci := 4) C hl.1 hK (gx_subP (wc := ([((ad 0), .inr (4, [.ref (ad 1), .ref (ad 2), .ref (ad 3), .ref (ad 4), .ref (ad 5), .ref (ad 6), .ref (ad 7), .ref (ad 8), .ref (ad 9), .int 0])), ((ad 1), .inr (0, [.ref (ad 10), .ref (ad 11), .ref (ad 12), .ref (ad 13), .ref (ad 14), .ref (ad 15), .ref (ad 16), .ref (ad 17), .ref (ad 18), .int 0, .int 0, .int 0, .int 0, .int 1, .int 0, .int 0, .int 0]))] : va_W)) hP [0, 1] rfl) ((hD.sub (ws' := ([((ad 0), .inr (4, [.ref (ad 1), .ref (ad 2), .ref (ad 3), .ref (ad 4), .ref (ad 5), .ref (ad 6), .ref (ad 7), .ref (ad 8), .ref (ad 9), .int 0])), ((ad 1), .inr (0, [.ref (ad 10), .ref (ad 11), .ref (ad 12), .ref (ad 13), .ref (ad 14), .ref (ad 15), .ref (ad 16), .ref (ad 17), .ref (ad 18), .int 0, .int 0, .int 0, .int 0, .int 1, .int 0, .int 0, .int 0]))] : va_W)) [0, 1] (by decide) rfl).weaken (fun _ _ _ _ => trivial)) (k_isOne l D k ad bv _) gV_RX6_182 (by decide +kernel) rfl rfl ⟨Nat.le_of_ble_eq_true rfl, Nat.le_of_ble_eq_true rfl⟩ rfl rfl rfl rfl (Nat.le_of_ble_eq_true rfl) dX6_lives_9 ⟨Nat.le_of_ble_eq_true rfl, Nat.le_of_ble_eq_true rfl⟩) (fun r_5 H locs c_4 hP hS => ?_)
    have c_4 : r_5 = 0 := c_4
    subst c_4
    refine lv_if_eq (tgt := 25) hx hb dX6_lives_12 (by decide) (fun c_6 => ?_) (fun c_6 => absurd (by decide) c_6)
    refine lv_aload_n hx hb dX6_lives_25 rfl (lv_at hl 0 rfl) ?_
    refine lv_bipush (v := (-2)) hx hb dX6_lives_26 (by decide) ?_
    refine gx_ei (wc := ([((ad 0), .inr (4, [.ref (ad 1), .ref (ad 2), .ref (ad 3), .ref (ad 4), .ref (ad 5), .ref (ad 6), .ref (ad 7), .ref (ad 8), .ref (ad 9), .int 0])), ((ad 9), .inl (k 0, 5, .inl (fun _ => 0)))] : va_W)) (wr := [((ad 1), .inr (0, [.ref (ad 10), .ref (ad 11), .ref (ad 12), .ref (ad 13), .ref (ad 14), .ref (ad 15), .ref (ad 16), .ref (ad 17), .ref (ad 18), .int 0, .int 0, .int 0, .int 0, .int 1, .int 0, .int 0, .int 0]))]) (isC := [0, 2]) (isR := [1]) hP hD hS hA rfl rfl (by decide) (by decide) (gx_runV (na := 1) (As := [.int (-2)]) (rest := []) (ci := 4) C hl.1 hK (gx_subP (wc := ([((ad 0), .inr (4, [.ref (ad 1), .ref (ad 2), .ref (ad 3), .ref (ad 4), .ref (ad 5), .ref (ad 6), .ref (ad 7), .ref (ad 8), .ref (ad 9), .int 0])), ((ad 9), .inl (k 0, 5, .inl (fun _ => 0)))] : va_W)) hP [0, 2] rfl) ((hD.sub (ws' := ([((ad 0), .inr (4, [.ref (ad 1), .ref (ad 2), .ref (ad 3), .ref (ad 4), .ref (ad 5), .ref (ad 6), .ref (ad 7), .ref (ad 8), .ref (ad 9), .int 0])), ((ad 9), .inl (k 0, 5, .inl (fun _ => 0)))] : va_W)) [0, 2] (by decide) rfl).weaken (fun _ _ _ _ => trivial)) (k_refuse2 l D k ad _) gV_RX6_61 (by decide +kernel) rfl rfl ⟨Nat.le_of_ble_eq_true rfl, Nat.le_of_ble_eq_true rfl⟩ rfl rfl rfl rfl (Nat.le_of_ble_eq_true rfl) dX6_lives_28 ⟨Nat.le_of_ble_eq_true rfl, Nat.le_of_ble_eq_true rfl⟩) (fun r_9 u_7 H locs h_8 hP hD hS => ?_)
    have h_8 : r_9 = -2 := h_8
    have hP : va_P D gx_cl [((ad 1), .inr (0, [.ref (ad 10), .ref (ad 11), .ref (ad 12), .ref (ad 13), .ref (ad 14), .ref (ad 15), .ref (ad 16), .ref (ad 17), .ref (ad 18), .int 0, .int 0, .int 0, .int 0, .int 1, .int 0, .int 0, .int 0]))] H := hP
    have hD : va_D A [((ad 1), .inr (0, [.ref (ad 10), .ref (ad 11), .ref (ad 12), .ref (ad 13), .ref (ad 14), .ref (ad 15), .ref (ad 16), .ref (ad 17), .ref (ad 18), .int 0, .int 0, .int 0, .int 0, .int 1, .int 0, .int 0, .int 0]))] := hD
    have eh_8 := h_8
    subst eh_8
    exact gx_retI C (u := ()) gx_nil gx_noneD hS (rfl) dX6_lives_31
  · refine lv_if_eq (tgt := 25) hx hb dX6_lives_4 (by decide) (fun c_11 => ?_) (fun c_11 => absurd (by decide) c_11)
    refine lv_aload_n hx hb dX6_lives_25 rfl (lv_at hl 0 rfl) ?_
    refine lv_bipush (v := (-2)) hx hb dX6_lives_26 (by decide) ?_
    refine gx_ei (wc := ([((ad 0), .inr (4, [.ref (ad 1), .ref (ad 2), .ref (ad 3), .ref (ad 4), .ref (ad 5), .ref (ad 6), .ref (ad 7), .ref (ad 8), .ref (ad 9), .int 0])), ((ad 9), .inl (k 0, 5, .inl (fun _ => 0)))] : va_W)) (wr := [((ad 1), .inr (0, [.ref (ad 10), .ref (ad 11), .ref (ad 12), .ref (ad 13), .ref (ad 14), .ref (ad 15), .ref (ad 16), .ref (ad 17), .ref (ad 18), .int 0, .int 0, .int 0, .int 0, .int 1, .int 0, .int 0, .int 0]))]) (isC := [0, 2]) (isR := [1]) hP hD hS hA rfl rfl (by decide) (by decide) (gx_runV (na := 1) (As := [.int (-2)]) (rest := []) (ci := 4) C hl.1 hK (gx_subP (wc := ([((ad 0), .inr (4, [.ref (ad 1), .ref (ad 2), .ref (ad 3), .ref (ad 4), .ref (ad 5), .ref (ad 6), .ref (ad 7), .ref (ad 8), .ref (ad 9), .int 0])), ((ad 9), .inl (k 0, 5, .inl (fun _ => 0)))] : va_W)) hP [0, 2] rfl) ((hD.sub (ws' := ([((ad 0), .inr (4, [.ref (ad 1), .ref (ad 2), .ref (ad 3), .ref (ad 4), .ref (ad 5), .ref (ad 6), .ref (ad 7), .ref (ad 8), .ref (ad 9), .int 0])), ((ad 9), .inl (k 0, 5, .inl (fun _ => 0)))] : va_W)) [0, 2] (by decide) rfl).weaken (fun _ _ _ _ => trivial)) (k_refuse2 l D k ad _) gV_RX6_61 (by decide +kernel) rfl rfl ⟨Nat.le_of_ble_eq_true rfl, Nat.le_of_ble_eq_true rfl⟩ rfl rfl rfl rfl (Nat.le_of_ble_eq_true rfl) dX6_lives_28 ⟨Nat.le_of_ble_eq_true rfl, Nat.le_of_ble_eq_true rfl⟩) (fun r_14 u_12 H locs h_13 hP hD hS => ?_)
    have h_13 : r_14 = -2 := h_13
    have hP : va_P D gx_cl [((ad 1), .inr (0, [.ref (ad 10), .ref (ad 11), .ref (ad 12), .ref (ad 13), .ref (ad 14), .ref (ad 15), .ref (ad 16), .ref (ad 17), .ref (ad 18), .int 0, .int 0, .int 0, .int 0, .int 1, .int 0, .int 0, .int 0]))] H := hP
    have hD : va_D A [((ad 1), .inr (0, [.ref (ad 10), .ref (ad 11), .ref (ad 12), .ref (ad 13), .ref (ad 14), .ref (ad 15), .ref (ad 16), .ref (ad 17), .ref (ad 18), .int 0, .int 0, .int 0, .int 0, .int 1, .int 0, .int 0, .int 0]))] := hD
    have eh_13 := h_13
    subst eh_13
    exact gx_retI C (u := ()) gx_nil gx_noneD hS (rfl) dX6_lives_31
set_option maxHeartbeats 4000000 in
set_option maxRecDepth 100000 in
theorem x_judge (l : Launch) (D : va_G) (k : Nat → ClassId) (ad : Nat → Nat) (av : Int32) (bv : Int32) (cv : Int32) (sz : Nat) : Met l yX6_judge (.code yX6_judge cX6_judge 5 (some .int) :: gx_T) ({ frames := 2, cells := 0, slots := 0, locals := 43 }) (gx_Pre D k [.ref (ad 0), .int av, .int bv, .int cv] ([((ad 0), .inr (4, [.ref (ad 1), .ref (ad 2), .ref (ad 3), .ref (ad 4), .ref (ad 5), .ref (ad 6), .ref (ad 7), .ref (ad 8), .ref (ad 9), .int 0])), ((ad 1), .inr (0, [.ref (ad 10), .ref (ad 11), .ref (ad 12), .ref (ad 13), .ref (ad 14), .ref (ad 15), .ref (ad 16), .ref (ad 17), .ref (ad 18), .int 0, .int 0, .int 0, .int 0, .int 1, .int 0, .int 0, .int 0])), ((ad 9), .inl (k 0, 5, .inl (fun _ => 0)))]) sz) (gx_Qi D (fun (r : Int32) (u : Unit) => r = -2) (fun (u : Unit) => ([] : va_W)) (va_A ([((ad 0), .inr (4, [.ref (ad 1), .ref (ad 2), .ref (ad 3), .ref (ad 4), .ref (ad 5), .ref (ad 6), .ref (ad 7), .ref (ad 8), .ref (ad 9), .int 0])), ((ad 1), .inr (0, [.ref (ad 10), .ref (ad 11), .ref (ad 12), .ref (ad 13), .ref (ad 14), .ref (ad 15), .ref (ad 16), .ref (ad 17), .ref (ad 18), .int 0, .int 0, .int 0, .int 0, .int 1, .int 0, .int 0, .int 0])), ((ad 9), .inl (k 0, 5, .inl (fun _ => 0)))]) sz)) 0 0 (va_A ([((ad 0), .inr (4, [.ref (ad 1), .ref (ad 2), .ref (ad 3), .ref (ad 4), .ref (ad 5), .ref (ad 6), .ref (ad 7), .ref (ad 8), .ref (ad 9), .int 0])), ((ad 1), .inr (0, [.ref (ad 10), .ref (ad 11), .ref (ad 12), .ref (ad 13), .ref (ad 14), .ref (ad 15), .ref (ad 16), .ref (ad 17), .ref (ad 18), .int 0, .int 0, .int 0, .int 0, .int 1, .int 0, .int 0, .int 0])), ((ad 9), .inl (k 0, 5, .inl (fun _ => 0)))]) sz) := by
  refine gx_metE (Qc := fun A => gx_Qi D (fun (r : Int32) (u : Unit) => r = -2) (fun (u : Unit) => ([] : va_W)) A) (by decide) (Nat.le_of_ble_eq_true rfl) ?_
  intro p e s m below meth c A ls C hA hP hD hK hS hl
  obtain ⟨hx, hb, hr, hml, hown, hT, hlk, hin⟩ := id C
  have hown : s.vm.findClass RX6 = some m.cls := hown
  have hl : lv_has ls 5 [(0, .ref (ad 0)), (1, .int av), (2, .int bv), (3, .int cv)] := hl
  refine lv_aload_n hx hb dX6_judge_0 rfl (lv_at hl 0 rfl) ?_
  refine lv_iload_n hx hb dX6_judge_1 rfl (lv_at hl 1 rfl) ?_
  refine gx_pi hP hS (gx_runV (na := 1) (As := [.int av]) (rest := []) (ci := 4) C hl.1 hK (gx_subP (wc := ([((ad 0), .inr (4, [.ref (ad 1), .ref (ad 2), .ref (ad 3), .ref (ad 4), .ref (ad 5), .ref (ad 6), .ref (ad 7), .ref (ad 8), .ref (ad 9), .int 0])), ((ad 1), .inr (0, [.ref (ad 10), .ref (ad 11), .ref (ad 12), .ref (ad 13), .ref (ad 14), .ref (ad 15), .ref (ad 16), .ref (ad 17), .ref (ad 18), .int 0, .int 0, .int 0, .int 0, .int 1, .int 0, .int 0, .int 0]))] : va_W)) hP [0, 1] rfl) ((hD.sub (ws' := ([((ad 0), .inr (4, [.ref (ad 1), .ref (ad 2), .ref (ad 3), .ref (ad 4), .ref (ad 5), .ref (ad 6), .ref (ad 7), .ref (ad 8), .ref (ad 9), .int 0])), ((ad 1), .inr (0, [.ref (ad 10), .ref (ad 11), .ref (ad 12), .ref (ad 13), .ref (ad 14), .ref (ad 15), .ref (ad 16), .ref (ad 17), .ref (ad 18), .int 0, .int 0, .int 0, .int 0, .int 1, .int 0, .int 0, .int 0]))] : va_W)) [0, 1] (by decide) rfl).weaken (fun _ _ _ _ => trivial)) (k_isOne l D k ad av _) gV_RX6_182 (by decide +kernel) rfl rfl ⟨Nat.le_of_ble_eq_true rfl, Nat.le_of_ble_eq_true rfl⟩ rfl rfl rfl rfl (Nat.le_of_ble_eq_true rfl) dX6_judge_2 ⟨Nat.le_of_ble_eq_true rfl, Nat.le_of_ble_eq_true rfl⟩) (fun r_2 H locs c_1 hP hS => ?_)
  have c_1 : r_2 = 0 := c_1
  subst c_1
  refine lv_if_eq (tgt := 25) hx hb dX6_judge_5 (by decide) (fun c_3 => ?_) (fun c_3 => absurd (by decide) c_3)
  refine lv_aload_n hx hb dX6_judge_25 rfl (lv_at hl 0 rfl) ?_
  refine lv_bipush (v := (-2)) hx hb dX6_judge_26 (by decide) ?_
  refine gx_ei (wc := ([((ad 0), .inr (4, [.ref (ad 1), .ref (ad 2), .ref (ad 3), .ref (ad 4), .ref (ad 5), .ref (ad 6), .ref (ad 7), .ref (ad 8), .ref (ad 9), .int 0])), ((ad 9), .inl (k 0, 5, .inl (fun _ => 0)))] : va_W)) (wr := [((ad 1), .inr (0, [.ref (ad 10), .ref (ad 11), .ref (ad 12), .ref (ad 13), .ref (ad 14), .ref (ad 15), .ref (ad 16), .ref (ad 17), .ref (ad 18), .int 0, .int 0, .int 0, .int 0, .int 1, .int 0, .int 0, .int 0]))]) (isC := [0, 2]) (isR := [1]) hP hD hS hA rfl rfl (by decide) (by decide) (gx_runV (na := 1) (As := [.int (-2)]) (rest := []) (ci := 4) C hl.1 hK (gx_subP (wc := ([((ad 0), .inr (4, [.ref (ad 1), .ref (ad 2), .ref (ad 3), .ref (ad 4), .ref (ad 5), .ref (ad 6), .ref (ad 7), .ref (ad 8), .ref (ad 9), .int 0])), ((ad 9), .inl (k 0, 5, .inl (fun _ => 0)))] : va_W)) hP [0, 2] rfl) ((hD.sub (ws' := ([((ad 0), .inr (4, [.ref (ad 1), .ref (ad 2), .ref (ad 3), .ref (ad 4), .ref (ad 5), .ref (ad 6), .ref (ad 7), .ref (ad 8), .ref (ad 9), .int 0])), ((ad 9), .inl (k 0, 5, .inl (fun _ => 0)))] : va_W)) [0, 2] (by decide) rfl).weaken (fun _ _ _ _ => trivial)) (k_refuse2 l D k ad _) gV_RX6_61 (by decide +kernel) rfl rfl ⟨Nat.le_of_ble_eq_true rfl, Nat.le_of_ble_eq_true rfl⟩ rfl rfl rfl rfl (Nat.le_of_ble_eq_true rfl) dX6_judge_28 ⟨Nat.le_of_ble_eq_true rfl, Nat.le_of_ble_eq_true rfl⟩) (fun r_6 u_4 H locs h_5 hP hD hS => ?_)
  have h_5 : r_6 = -2 := h_5
  have hP : va_P D gx_cl [((ad 1), .inr (0, [.ref (ad 10), .ref (ad 11), .ref (ad 12), .ref (ad 13), .ref (ad 14), .ref (ad 15), .ref (ad 16), .ref (ad 17), .ref (ad 18), .int 0, .int 0, .int 0, .int 0, .int 1, .int 0, .int 0, .int 0]))] H := hP
  have hD : va_D A [((ad 1), .inr (0, [.ref (ad 10), .ref (ad 11), .ref (ad 12), .ref (ad 13), .ref (ad 14), .ref (ad 15), .ref (ad 16), .ref (ad 17), .ref (ad 18), .int 0, .int 0, .int 0, .int 0, .int 1, .int 0, .int 0, .int 0]))] := hD
  have eh_5 := h_5
  subst eh_5
  exact gx_retI C (u := ()) gx_nil gx_noneD hS (rfl) dX6_judge_31
set_option maxHeartbeats 4000000 in
set_option maxRecDepth 100000 in
theorem x_told (l : Launch) (D : va_G) (k : Nat → ClassId) (ad : Nat → Nat) (av : Int32) (bv : Int32) (cv : Int32) (dv : Int32) (sz : Nat) : Met l yX6_told (.code yX6_told cX6_told 6 (some .int) :: gx_T) ({ frames := 2, cells := 0, slots := 0, locals := 43 }) (gx_Pre D k [.ref (ad 0), .int av, .int bv, .int cv, .int dv] ([((ad 0), .inr (4, [.ref (ad 1), .ref (ad 2), .ref (ad 3), .ref (ad 4), .ref (ad 5), .ref (ad 6), .ref (ad 7), .ref (ad 8), .ref (ad 9), .int 0])), ((ad 1), .inr (0, [.ref (ad 10), .ref (ad 11), .ref (ad 12), .ref (ad 13), .ref (ad 14), .ref (ad 15), .ref (ad 16), .ref (ad 17), .ref (ad 18), .int 0, .int 0, .int 0, .int 0, .int 1, .int 0, .int 0, .int 0])), ((ad 9), .inl (k 0, 5, .inl (fun _ => 0)))]) sz) (gx_Qi D (fun (r : Int32) (u : Unit) => r = -2) (fun (u : Unit) => ([] : va_W)) (va_A ([((ad 0), .inr (4, [.ref (ad 1), .ref (ad 2), .ref (ad 3), .ref (ad 4), .ref (ad 5), .ref (ad 6), .ref (ad 7), .ref (ad 8), .ref (ad 9), .int 0])), ((ad 1), .inr (0, [.ref (ad 10), .ref (ad 11), .ref (ad 12), .ref (ad 13), .ref (ad 14), .ref (ad 15), .ref (ad 16), .ref (ad 17), .ref (ad 18), .int 0, .int 0, .int 0, .int 0, .int 1, .int 0, .int 0, .int 0])), ((ad 9), .inl (k 0, 5, .inl (fun _ => 0)))]) sz)) 0 0 (va_A ([((ad 0), .inr (4, [.ref (ad 1), .ref (ad 2), .ref (ad 3), .ref (ad 4), .ref (ad 5), .ref (ad 6), .ref (ad 7), .ref (ad 8), .ref (ad 9), .int 0])), ((ad 1), .inr (0, [.ref (ad 10), .ref (ad 11), .ref (ad 12), .ref (ad 13), .ref (ad 14), .ref (ad 15), .ref (ad 16), .ref (ad 17), .ref (ad 18), .int 0, .int 0, .int 0, .int 0, .int 1, .int 0, .int 0, .int 0])), ((ad 9), .inl (k 0, 5, .inl (fun _ => 0)))]) sz) := by
  refine gx_metE (Qc := fun A => gx_Qi D (fun (r : Int32) (u : Unit) => r = -2) (fun (u : Unit) => ([] : va_W)) A) (by decide) (Nat.le_of_ble_eq_true rfl) ?_
  intro p e s m below meth c A ls C hA hP hD hK hS hl
  obtain ⟨hx, hb, hr, hml, hown, hT, hlk, hin⟩ := id C
  have hown : s.vm.findClass RX6 = some m.cls := hown
  have hl : lv_has ls 6 [(0, .ref (ad 0)), (1, .int av), (2, .int bv), (3, .int cv), (4, .int dv)] := hl
  refine lv_aload_n hx hb dX6_told_0 rfl (lv_at hl 0 rfl) ?_
  refine lv_iload_n hx hb dX6_told_1 rfl (lv_at hl 1 rfl) ?_
  refine gx_pi hP hS (gx_runV (na := 1) (As := [.int av]) (rest := []) (ci := 4) C hl.1 hK (gx_subP (wc := ([((ad 0), .inr (4, [.ref (ad 1), .ref (ad 2), .ref (ad 3), .ref (ad 4), .ref (ad 5), .ref (ad 6), .ref (ad 7), .ref (ad 8), .ref (ad 9), .int 0])), ((ad 1), .inr (0, [.ref (ad 10), .ref (ad 11), .ref (ad 12), .ref (ad 13), .ref (ad 14), .ref (ad 15), .ref (ad 16), .ref (ad 17), .ref (ad 18), .int 0, .int 0, .int 0, .int 0, .int 1, .int 0, .int 0, .int 0]))] : va_W)) hP [0, 1] rfl) ((hD.sub (ws' := ([((ad 0), .inr (4, [.ref (ad 1), .ref (ad 2), .ref (ad 3), .ref (ad 4), .ref (ad 5), .ref (ad 6), .ref (ad 7), .ref (ad 8), .ref (ad 9), .int 0])), ((ad 1), .inr (0, [.ref (ad 10), .ref (ad 11), .ref (ad 12), .ref (ad 13), .ref (ad 14), .ref (ad 15), .ref (ad 16), .ref (ad 17), .ref (ad 18), .int 0, .int 0, .int 0, .int 0, .int 1, .int 0, .int 0, .int 0]))] : va_W)) [0, 1] (by decide) rfl).weaken (fun _ _ _ _ => trivial)) (k_isOne l D k ad av _) gV_RX6_182 (by decide +kernel) rfl rfl ⟨Nat.le_of_ble_eq_true rfl, Nat.le_of_ble_eq_true rfl⟩ rfl rfl rfl rfl (Nat.le_of_ble_eq_true rfl) dX6_told_2 ⟨Nat.le_of_ble_eq_true rfl, Nat.le_of_ble_eq_true rfl⟩) (fun r_2 H locs c_1 hP hS => ?_)
  have c_1 : r_2 = 0 := c_1
  subst c_1
  refine lv_if_eq (tgt := 35) hx hb dX6_told_5 (by decide) (fun c_3 => ?_) (fun c_3 => absurd (by decide) c_3)
  refine lv_aload_n hx hb dX6_told_35 rfl (lv_at hl 0 rfl) ?_
  refine lv_bipush (v := (-2)) hx hb dX6_told_36 (by decide) ?_
  refine gx_ei (wc := ([((ad 0), .inr (4, [.ref (ad 1), .ref (ad 2), .ref (ad 3), .ref (ad 4), .ref (ad 5), .ref (ad 6), .ref (ad 7), .ref (ad 8), .ref (ad 9), .int 0])), ((ad 9), .inl (k 0, 5, .inl (fun _ => 0)))] : va_W)) (wr := [((ad 1), .inr (0, [.ref (ad 10), .ref (ad 11), .ref (ad 12), .ref (ad 13), .ref (ad 14), .ref (ad 15), .ref (ad 16), .ref (ad 17), .ref (ad 18), .int 0, .int 0, .int 0, .int 0, .int 1, .int 0, .int 0, .int 0]))]) (isC := [0, 2]) (isR := [1]) hP hD hS hA rfl rfl (by decide) (by decide) (gx_runV (na := 1) (As := [.int (-2)]) (rest := []) (ci := 4) C hl.1 hK (gx_subP (wc := ([((ad 0), .inr (4, [.ref (ad 1), .ref (ad 2), .ref (ad 3), .ref (ad 4), .ref (ad 5), .ref (ad 6), .ref (ad 7), .ref (ad 8), .ref (ad 9), .int 0])), ((ad 9), .inl (k 0, 5, .inl (fun _ => 0)))] : va_W)) hP [0, 2] rfl) ((hD.sub (ws' := ([((ad 0), .inr (4, [.ref (ad 1), .ref (ad 2), .ref (ad 3), .ref (ad 4), .ref (ad 5), .ref (ad 6), .ref (ad 7), .ref (ad 8), .ref (ad 9), .int 0])), ((ad 9), .inl (k 0, 5, .inl (fun _ => 0)))] : va_W)) [0, 2] (by decide) rfl).weaken (fun _ _ _ _ => trivial)) (k_refuse2 l D k ad _) gV_RX6_61 (by decide +kernel) rfl rfl ⟨Nat.le_of_ble_eq_true rfl, Nat.le_of_ble_eq_true rfl⟩ rfl rfl rfl rfl (Nat.le_of_ble_eq_true rfl) dX6_told_38 ⟨Nat.le_of_ble_eq_true rfl, Nat.le_of_ble_eq_true rfl⟩) (fun r_6 u_4 H locs h_5 hP hD hS => ?_)
  have h_5 : r_6 = -2 := h_5
  have hP : va_P D gx_cl [((ad 1), .inr (0, [.ref (ad 10), .ref (ad 11), .ref (ad 12), .ref (ad 13), .ref (ad 14), .ref (ad 15), .ref (ad 16), .ref (ad 17), .ref (ad 18), .int 0, .int 0, .int 0, .int 0, .int 1, .int 0, .int 0, .int 0]))] H := hP
  have hD : va_D A [((ad 1), .inr (0, [.ref (ad 10), .ref (ad 11), .ref (ad 12), .ref (ad 13), .ref (ad 14), .ref (ad 15), .ref (ad 16), .ref (ad 17), .ref (ad 18), .int 0, .int 0, .int 0, .int 0, .int 1, .int 0, .int 0, .int 0]))] := hD
  have eh_5 := h_5
  subst eh_5
  exact gx_retI C (u := ()) gx_nil gx_noneD hS (rfl) dX6_told_41
set_option maxHeartbeats 4000000 in
set_option maxRecDepth 100000 in
theorem x_law (l : Launch) (D : va_G) (k : Nat → ClassId) (ad : Nat → Nat) (av : Int32) (bv : Int32) (sz : Nat) : Met l yX6_law (.code yX6_law cX6_law 4 (some .int) :: gx_T) ({ frames := 2, cells := 0, slots := 0, locals := 43 }) (gx_Pre D k [.ref (ad 0), .int av, .int bv] ([((ad 0), .inr (4, [.ref (ad 1), .ref (ad 2), .ref (ad 3), .ref (ad 4), .ref (ad 5), .ref (ad 6), .ref (ad 7), .ref (ad 8), .ref (ad 9), .int 0])), ((ad 1), .inr (0, [.ref (ad 10), .ref (ad 11), .ref (ad 12), .ref (ad 13), .ref (ad 14), .ref (ad 15), .ref (ad 16), .ref (ad 17), .ref (ad 18), .int 0, .int 0, .int 0, .int 0, .int 1, .int 0, .int 0, .int 0])), ((ad 9), .inl (k 0, 5, .inl (fun _ => 0)))]) sz) (gx_Qi D (fun (r : Int32) (u : Unit) => r = -2) (fun (u : Unit) => ([] : va_W)) (va_A ([((ad 0), .inr (4, [.ref (ad 1), .ref (ad 2), .ref (ad 3), .ref (ad 4), .ref (ad 5), .ref (ad 6), .ref (ad 7), .ref (ad 8), .ref (ad 9), .int 0])), ((ad 1), .inr (0, [.ref (ad 10), .ref (ad 11), .ref (ad 12), .ref (ad 13), .ref (ad 14), .ref (ad 15), .ref (ad 16), .ref (ad 17), .ref (ad 18), .int 0, .int 0, .int 0, .int 0, .int 1, .int 0, .int 0, .int 0])), ((ad 9), .inl (k 0, 5, .inl (fun _ => 0)))]) sz)) 0 0 (va_A ([((ad 0), .inr (4, [.ref (ad 1), .ref (ad 2), .ref (ad 3), .ref (ad 4), .ref (ad 5), .ref (ad 6), .ref (ad 7), .ref (ad 8), .ref (ad 9), .int 0])), ((ad 1), .inr (0, [.ref (ad 10), .ref (ad 11), .ref (ad 12), .ref (ad 13), .ref (ad 14), .ref (ad 15), .ref (ad 16), .ref (ad 17), .ref (ad 18), .int 0, .int 0, .int 0, .int 0, .int 1, .int 0, .int 0, .int 0])), ((ad 9), .inl (k 0, 5, .inl (fun _ => 0)))]) sz) := by
  refine gx_metE (Qc := fun A => gx_Qi D (fun (r : Int32) (u : Unit) => r = -2) (fun (u : Unit) => ([] : va_W)) A) (by decide) (Nat.le_of_ble_eq_true rfl) ?_
  intro p e s m below meth c A ls C hA hP hD hK hS hl
  obtain ⟨hx, hb, hr, hml, hown, hT, hlk, hin⟩ := id C
  have hown : s.vm.findClass RX6 = some m.cls := hown
  have hl : lv_has ls 4 [(0, .ref (ad 0)), (1, .int av), (2, .int bv)] := hl
  refine lv_aload_n hx hb dX6_law_0 rfl (lv_at hl 0 rfl) ?_
  refine lv_iload_n hx hb dX6_law_1 rfl (lv_at hl 1 rfl) ?_
  refine gx_pi hP hS (gx_runV (na := 1) (As := [.int av]) (rest := []) (ci := 4) C hl.1 hK (gx_subP (wc := ([((ad 0), .inr (4, [.ref (ad 1), .ref (ad 2), .ref (ad 3), .ref (ad 4), .ref (ad 5), .ref (ad 6), .ref (ad 7), .ref (ad 8), .ref (ad 9), .int 0])), ((ad 1), .inr (0, [.ref (ad 10), .ref (ad 11), .ref (ad 12), .ref (ad 13), .ref (ad 14), .ref (ad 15), .ref (ad 16), .ref (ad 17), .ref (ad 18), .int 0, .int 0, .int 0, .int 0, .int 1, .int 0, .int 0, .int 0]))] : va_W)) hP [0, 1] rfl) ((hD.sub (ws' := ([((ad 0), .inr (4, [.ref (ad 1), .ref (ad 2), .ref (ad 3), .ref (ad 4), .ref (ad 5), .ref (ad 6), .ref (ad 7), .ref (ad 8), .ref (ad 9), .int 0])), ((ad 1), .inr (0, [.ref (ad 10), .ref (ad 11), .ref (ad 12), .ref (ad 13), .ref (ad 14), .ref (ad 15), .ref (ad 16), .ref (ad 17), .ref (ad 18), .int 0, .int 0, .int 0, .int 0, .int 1, .int 0, .int 0, .int 0]))] : va_W)) [0, 1] (by decide) rfl).weaken (fun _ _ _ _ => trivial)) (k_isOne l D k ad av _) gV_RX6_182 (by decide +kernel) rfl rfl ⟨Nat.le_of_ble_eq_true rfl, Nat.le_of_ble_eq_true rfl⟩ rfl rfl rfl rfl (Nat.le_of_ble_eq_true rfl) dX6_law_2 ⟨Nat.le_of_ble_eq_true rfl, Nat.le_of_ble_eq_true rfl⟩) (fun r_2 H locs c_1 hP hS => ?_)
  have c_1 : r_2 = 0 := c_1
  subst c_1
  refine lv_if_eq (tgt := 17) hx hb dX6_law_5 (by decide) (fun c_3 => ?_) (fun c_3 => absurd (by decide) c_3)
  refine lv_aload_n hx hb dX6_law_17 rfl (lv_at hl 0 rfl) ?_
  refine lv_bipush (v := (-2)) hx hb dX6_law_18 (by decide) ?_
  refine gx_ei (wc := ([((ad 0), .inr (4, [.ref (ad 1), .ref (ad 2), .ref (ad 3), .ref (ad 4), .ref (ad 5), .ref (ad 6), .ref (ad 7), .ref (ad 8), .ref (ad 9), .int 0])), ((ad 9), .inl (k 0, 5, .inl (fun _ => 0)))] : va_W)) (wr := [((ad 1), .inr (0, [.ref (ad 10), .ref (ad 11), .ref (ad 12), .ref (ad 13), .ref (ad 14), .ref (ad 15), .ref (ad 16), .ref (ad 17), .ref (ad 18), .int 0, .int 0, .int 0, .int 0, .int 1, .int 0, .int 0, .int 0]))]) (isC := [0, 2]) (isR := [1]) hP hD hS hA rfl rfl (by decide) (by decide) (gx_runV (na := 1) (As := [.int (-2)]) (rest := []) (ci := 4) C hl.1 hK (gx_subP (wc := ([((ad 0), .inr (4, [.ref (ad 1), .ref (ad 2), .ref (ad 3), .ref (ad 4), .ref (ad 5), .ref (ad 6), .ref (ad 7), .ref (ad 8), .ref (ad 9), .int 0])), ((ad 9), .inl (k 0, 5, .inl (fun _ => 0)))] : va_W)) hP [0, 2] rfl) ((hD.sub (ws' := ([((ad 0), .inr (4, [.ref (ad 1), .ref (ad 2), .ref (ad 3), .ref (ad 4), .ref (ad 5), .ref (ad 6), .ref (ad 7), .ref (ad 8), .ref (ad 9), .int 0])), ((ad 9), .inl (k 0, 5, .inl (fun _ => 0)))] : va_W)) [0, 2] (by decide) rfl).weaken (fun _ _ _ _ => trivial)) (k_refuse2 l D k ad _) gV_RX6_61 (by decide +kernel) rfl rfl ⟨Nat.le_of_ble_eq_true rfl, Nat.le_of_ble_eq_true rfl⟩ rfl rfl rfl rfl (Nat.le_of_ble_eq_true rfl) dX6_law_20 ⟨Nat.le_of_ble_eq_true rfl, Nat.le_of_ble_eq_true rfl⟩) (fun r_6 u_4 H locs h_5 hP hD hS => ?_)
  have h_5 : r_6 = -2 := h_5
  have hP : va_P D gx_cl [((ad 1), .inr (0, [.ref (ad 10), .ref (ad 11), .ref (ad 12), .ref (ad 13), .ref (ad 14), .ref (ad 15), .ref (ad 16), .ref (ad 17), .ref (ad 18), .int 0, .int 0, .int 0, .int 0, .int 1, .int 0, .int 0, .int 0]))] H := hP
  have hD : va_D A [((ad 1), .inr (0, [.ref (ad 10), .ref (ad 11), .ref (ad 12), .ref (ad 13), .ref (ad 14), .ref (ad 15), .ref (ad 16), .ref (ad 17), .ref (ad 18), .int 0, .int 0, .int 0, .int 0, .int 1, .int 0, .int 0, .int 0]))] := hD
  have eh_5 := h_5
  subst eh_5
  exact gx_retI C (u := ()) gx_nil gx_noneD hS (rfl) dX6_law_23
set_option maxHeartbeats 4000000 in
set_option maxRecDepth 100000 in
theorem x_all (l : Launch) (D : va_G) (k : Nat → ClassId) (ad : Nat → Nat) (av : Int32) (sz : Nat) : Met l yX6_all (.code yX6_all cX6_all 2 (some .int) :: gx_T) ({ frames := 2, cells := 0, slots := 0, locals := 43 }) (gx_Pre D k [.ref (ad 0), .int av] ([((ad 0), .inr (4, [.ref (ad 1), .ref (ad 2), .ref (ad 3), .ref (ad 4), .ref (ad 5), .ref (ad 6), .ref (ad 7), .ref (ad 8), .ref (ad 9), .int 0])), ((ad 1), .inr (0, [.ref (ad 10), .ref (ad 11), .ref (ad 12), .ref (ad 13), .ref (ad 14), .ref (ad 15), .ref (ad 16), .ref (ad 17), .ref (ad 18), .int 0, .int 0, .int 0, .int 0, .int 1, .int 0, .int 0, .int 0])), ((ad 9), .inl (k 0, 5, .inl (fun _ => 0)))]) sz) (gx_Qi D (fun (r : Int32) (u : Unit) => r = -2) (fun (u : Unit) => ([] : va_W)) (va_A ([((ad 0), .inr (4, [.ref (ad 1), .ref (ad 2), .ref (ad 3), .ref (ad 4), .ref (ad 5), .ref (ad 6), .ref (ad 7), .ref (ad 8), .ref (ad 9), .int 0])), ((ad 1), .inr (0, [.ref (ad 10), .ref (ad 11), .ref (ad 12), .ref (ad 13), .ref (ad 14), .ref (ad 15), .ref (ad 16), .ref (ad 17), .ref (ad 18), .int 0, .int 0, .int 0, .int 0, .int 1, .int 0, .int 0, .int 0])), ((ad 9), .inl (k 0, 5, .inl (fun _ => 0)))]) sz)) 0 0 (va_A ([((ad 0), .inr (4, [.ref (ad 1), .ref (ad 2), .ref (ad 3), .ref (ad 4), .ref (ad 5), .ref (ad 6), .ref (ad 7), .ref (ad 8), .ref (ad 9), .int 0])), ((ad 1), .inr (0, [.ref (ad 10), .ref (ad 11), .ref (ad 12), .ref (ad 13), .ref (ad 14), .ref (ad 15), .ref (ad 16), .ref (ad 17), .ref (ad 18), .int 0, .int 0, .int 0, .int 0, .int 1, .int 0, .int 0, .int 0])), ((ad 9), .inl (k 0, 5, .inl (fun _ => 0)))]) sz) := by
  refine gx_metE (Qc := fun A => gx_Qi D (fun (r : Int32) (u : Unit) => r = -2) (fun (u : Unit) => ([] : va_W)) A) (by decide) (Nat.le_of_ble_eq_true rfl) ?_
  intro p e s m below meth c A ls C hA hP hD hK hS hl
  obtain ⟨hx, hb, hr, hml, hown, hT, hlk, hin⟩ := id C
  have hown : s.vm.findClass RX6 = some m.cls := hown
  have hl : lv_has ls 2 [(0, .ref (ad 0)), (1, .int av)] := hl
  refine lv_aload_n hx hb dX6_all_0 rfl (lv_at hl 0 rfl) ?_
  refine lv_iload_n hx hb dX6_all_1 rfl (lv_at hl 1 rfl) ?_
  refine gx_pi hP hS (gx_runV (na := 1) (As := [.int av]) (rest := []) (ci := 4) C hl.1 hK (gx_subP (wc := ([((ad 0), .inr (4, [.ref (ad 1), .ref (ad 2), .ref (ad 3), .ref (ad 4), .ref (ad 5), .ref (ad 6), .ref (ad 7), .ref (ad 8), .ref (ad 9), .int 0])), ((ad 1), .inr (0, [.ref (ad 10), .ref (ad 11), .ref (ad 12), .ref (ad 13), .ref (ad 14), .ref (ad 15), .ref (ad 16), .ref (ad 17), .ref (ad 18), .int 0, .int 0, .int 0, .int 0, .int 1, .int 0, .int 0, .int 0]))] : va_W)) hP [0, 1] rfl) ((hD.sub (ws' := ([((ad 0), .inr (4, [.ref (ad 1), .ref (ad 2), .ref (ad 3), .ref (ad 4), .ref (ad 5), .ref (ad 6), .ref (ad 7), .ref (ad 8), .ref (ad 9), .int 0])), ((ad 1), .inr (0, [.ref (ad 10), .ref (ad 11), .ref (ad 12), .ref (ad 13), .ref (ad 14), .ref (ad 15), .ref (ad 16), .ref (ad 17), .ref (ad 18), .int 0, .int 0, .int 0, .int 0, .int 1, .int 0, .int 0, .int 0]))] : va_W)) [0, 1] (by decide) rfl).weaken (fun _ _ _ _ => trivial)) (k_isOne l D k ad av _) gV_RX6_182 (by decide +kernel) rfl rfl ⟨Nat.le_of_ble_eq_true rfl, Nat.le_of_ble_eq_true rfl⟩ rfl rfl rfl rfl (Nat.le_of_ble_eq_true rfl) dX6_all_2 ⟨Nat.le_of_ble_eq_true rfl, Nat.le_of_ble_eq_true rfl⟩) (fun r_2 H locs c_1 hP hS => ?_)
  have c_1 : r_2 = 0 := c_1
  subst c_1
  refine lv_if_eq (tgt := 35) hx hb dX6_all_5 (by decide) (fun c_3 => ?_) (fun c_3 => absurd (by decide) c_3)
  refine lv_aload_n hx hb dX6_all_35 rfl (lv_at hl 0 rfl) ?_
  refine lv_bipush (v := (-2)) hx hb dX6_all_36 (by decide) ?_
  refine gx_ei (wc := ([((ad 0), .inr (4, [.ref (ad 1), .ref (ad 2), .ref (ad 3), .ref (ad 4), .ref (ad 5), .ref (ad 6), .ref (ad 7), .ref (ad 8), .ref (ad 9), .int 0])), ((ad 9), .inl (k 0, 5, .inl (fun _ => 0)))] : va_W)) (wr := [((ad 1), .inr (0, [.ref (ad 10), .ref (ad 11), .ref (ad 12), .ref (ad 13), .ref (ad 14), .ref (ad 15), .ref (ad 16), .ref (ad 17), .ref (ad 18), .int 0, .int 0, .int 0, .int 0, .int 1, .int 0, .int 0, .int 0]))]) (isC := [0, 2]) (isR := [1]) hP hD hS hA rfl rfl (by decide) (by decide) (gx_runV (na := 1) (As := [.int (-2)]) (rest := []) (ci := 4) C hl.1 hK (gx_subP (wc := ([((ad 0), .inr (4, [.ref (ad 1), .ref (ad 2), .ref (ad 3), .ref (ad 4), .ref (ad 5), .ref (ad 6), .ref (ad 7), .ref (ad 8), .ref (ad 9), .int 0])), ((ad 9), .inl (k 0, 5, .inl (fun _ => 0)))] : va_W)) hP [0, 2] rfl) ((hD.sub (ws' := ([((ad 0), .inr (4, [.ref (ad 1), .ref (ad 2), .ref (ad 3), .ref (ad 4), .ref (ad 5), .ref (ad 6), .ref (ad 7), .ref (ad 8), .ref (ad 9), .int 0])), ((ad 9), .inl (k 0, 5, .inl (fun _ => 0)))] : va_W)) [0, 2] (by decide) rfl).weaken (fun _ _ _ _ => trivial)) (k_refuse2 l D k ad _) gV_RX6_61 (by decide +kernel) rfl rfl ⟨Nat.le_of_ble_eq_true rfl, Nat.le_of_ble_eq_true rfl⟩ rfl rfl rfl rfl (Nat.le_of_ble_eq_true rfl) dX6_all_38 ⟨Nat.le_of_ble_eq_true rfl, Nat.le_of_ble_eq_true rfl⟩) (fun r_6 u_4 H locs h_5 hP hD hS => ?_)
  have h_5 : r_6 = -2 := h_5
  have hP : va_P D gx_cl [((ad 1), .inr (0, [.ref (ad 10), .ref (ad 11), .ref (ad 12), .ref (ad 13), .ref (ad 14), .ref (ad 15), .ref (ad 16), .ref (ad 17), .ref (ad 18), .int 0, .int 0, .int 0, .int 0, .int 1, .int 0, .int 0, .int 0]))] H := hP
  have hD : va_D A [((ad 1), .inr (0, [.ref (ad 10), .ref (ad 11), .ref (ad 12), .ref (ad 13), .ref (ad 14), .ref (ad 15), .ref (ad 16), .ref (ad 17), .ref (ad 18), .int 0, .int 0, .int 0, .int 0, .int 1, .int 0, .int 0, .int 0]))] := hD
  have eh_5 := h_5
  subst eh_5
  exact gx_retI C (u := ()) gx_nil gx_noneD hS (rfl) dX6_all_41
set_option maxHeartbeats 4000000 in
set_option maxRecDepth 100000 in
theorem x_way (l : Launch) (D : va_G) (k : Nat → ClassId) (ad : Nat → Nat) (av : Int32) (bv : Int32) (sz : Nat) : Met l yX6_way (.code yX6_way cX6_way 4 (some .int) :: gx_T) ({ frames := 2, cells := 0, slots := 0, locals := 43 }) (gx_Pre D k [.ref (ad 0), .int av, .int bv] ([((ad 0), .inr (4, [.ref (ad 1), .ref (ad 2), .ref (ad 3), .ref (ad 4), .ref (ad 5), .ref (ad 6), .ref (ad 7), .ref (ad 8), .ref (ad 9), .int 0])), ((ad 1), .inr (0, [.ref (ad 10), .ref (ad 11), .ref (ad 12), .ref (ad 13), .ref (ad 14), .ref (ad 15), .ref (ad 16), .ref (ad 17), .ref (ad 18), .int 0, .int 0, .int 0, .int 0, .int 1, .int 0, .int 0, .int 0])), ((ad 9), .inl (k 0, 5, .inl (fun _ => 0)))]) sz) (gx_Qi D (fun (r : Int32) (u : Unit) => r = -2) (fun (u : Unit) => ([] : va_W)) (va_A ([((ad 0), .inr (4, [.ref (ad 1), .ref (ad 2), .ref (ad 3), .ref (ad 4), .ref (ad 5), .ref (ad 6), .ref (ad 7), .ref (ad 8), .ref (ad 9), .int 0])), ((ad 1), .inr (0, [.ref (ad 10), .ref (ad 11), .ref (ad 12), .ref (ad 13), .ref (ad 14), .ref (ad 15), .ref (ad 16), .ref (ad 17), .ref (ad 18), .int 0, .int 0, .int 0, .int 0, .int 1, .int 0, .int 0, .int 0])), ((ad 9), .inl (k 0, 5, .inl (fun _ => 0)))]) sz)) 0 0 (va_A ([((ad 0), .inr (4, [.ref (ad 1), .ref (ad 2), .ref (ad 3), .ref (ad 4), .ref (ad 5), .ref (ad 6), .ref (ad 7), .ref (ad 8), .ref (ad 9), .int 0])), ((ad 1), .inr (0, [.ref (ad 10), .ref (ad 11), .ref (ad 12), .ref (ad 13), .ref (ad 14), .ref (ad 15), .ref (ad 16), .ref (ad 17), .ref (ad 18), .int 0, .int 0, .int 0, .int 0, .int 1, .int 0, .int 0, .int 0])), ((ad 9), .inl (k 0, 5, .inl (fun _ => 0)))]) sz) := by
  refine gx_metE (Qc := fun A => gx_Qi D (fun (r : Int32) (u : Unit) => r = -2) (fun (u : Unit) => ([] : va_W)) A) (by decide) (Nat.le_of_ble_eq_true rfl) ?_
  intro p e s m below meth c A ls C hA hP hD hK hS hl
  obtain ⟨hx, hb, hr, hml, hown, hT, hlk, hin⟩ := id C
  have hown : s.vm.findClass RX6 = some m.cls := hown
  have hl : lv_has ls 4 [(0, .ref (ad 0)), (1, .int av), (2, .int bv)] := hl
  refine lv_aload_n hx hb dX6_way_0 rfl (lv_at hl 0 rfl) ?_
  refine lv_iload_n hx hb dX6_way_1 rfl (lv_at hl 1 rfl) ?_
  refine gx_pi hP hS (gx_runV (na := 1) (As := [.int av]) (rest := []) (ci := 4) C hl.1 hK (gx_subP (wc := ([((ad 0), .inr (4, [.ref (ad 1), .ref (ad 2), .ref (ad 3), .ref (ad 4), .ref (ad 5), .ref (ad 6), .ref (ad 7), .ref (ad 8), .ref (ad 9), .int 0])), ((ad 1), .inr (0, [.ref (ad 10), .ref (ad 11), .ref (ad 12), .ref (ad 13), .ref (ad 14), .ref (ad 15), .ref (ad 16), .ref (ad 17), .ref (ad 18), .int 0, .int 0, .int 0, .int 0, .int 1, .int 0, .int 0, .int 0]))] : va_W)) hP [0, 1] rfl) ((hD.sub (ws' := ([((ad 0), .inr (4, [.ref (ad 1), .ref (ad 2), .ref (ad 3), .ref (ad 4), .ref (ad 5), .ref (ad 6), .ref (ad 7), .ref (ad 8), .ref (ad 9), .int 0])), ((ad 1), .inr (0, [.ref (ad 10), .ref (ad 11), .ref (ad 12), .ref (ad 13), .ref (ad 14), .ref (ad 15), .ref (ad 16), .ref (ad 17), .ref (ad 18), .int 0, .int 0, .int 0, .int 0, .int 1, .int 0, .int 0, .int 0]))] : va_W)) [0, 1] (by decide) rfl).weaken (fun _ _ _ _ => trivial)) (k_isOne l D k ad av _) gV_RX6_182 (by decide +kernel) rfl rfl ⟨Nat.le_of_ble_eq_true rfl, Nat.le_of_ble_eq_true rfl⟩ rfl rfl rfl rfl (Nat.le_of_ble_eq_true rfl) dX6_way_2 ⟨Nat.le_of_ble_eq_true rfl, Nat.le_of_ble_eq_true rfl⟩) (fun r_2 H locs c_1 hP hS => ?_)
  have c_1 : r_2 = 0 := c_1
  subst c_1
  refine lv_if_eq (tgt := 29) hx hb dX6_way_5 (by decide) (fun c_3 => ?_) (fun c_3 => absurd (by decide) c_3)
  refine lv_aload_n hx hb dX6_way_29 rfl (lv_at hl 0 rfl) ?_
  refine lv_bipush (v := (-2)) hx hb dX6_way_30 (by decide) ?_
  refine gx_ei (wc := ([((ad 0), .inr (4, [.ref (ad 1), .ref (ad 2), .ref (ad 3), .ref (ad 4), .ref (ad 5), .ref (ad 6), .ref (ad 7), .ref (ad 8), .ref (ad 9), .int 0])), ((ad 9), .inl (k 0, 5, .inl (fun _ => 0)))] : va_W)) (wr := [((ad 1), .inr (0, [.ref (ad 10), .ref (ad 11), .ref (ad 12), .ref (ad 13), .ref (ad 14), .ref (ad 15), .ref (ad 16), .ref (ad 17), .ref (ad 18), .int 0, .int 0, .int 0, .int 0, .int 1, .int 0, .int 0, .int 0]))]) (isC := [0, 2]) (isR := [1]) hP hD hS hA rfl rfl (by decide) (by decide) (gx_runV (na := 1) (As := [.int (-2)]) (rest := []) (ci := 4) C hl.1 hK (gx_subP (wc := ([((ad 0), .inr (4, [.ref (ad 1), .ref (ad 2), .ref (ad 3), .ref (ad 4), .ref (ad 5), .ref (ad 6), .ref (ad 7), .ref (ad 8), .ref (ad 9), .int 0])), ((ad 9), .inl (k 0, 5, .inl (fun _ => 0)))] : va_W)) hP [0, 2] rfl) ((hD.sub (ws' := ([((ad 0), .inr (4, [.ref (ad 1), .ref (ad 2), .ref (ad 3), .ref (ad 4), .ref (ad 5), .ref (ad 6), .ref (ad 7), .ref (ad 8), .ref (ad 9), .int 0])), ((ad 9), .inl (k 0, 5, .inl (fun _ => 0)))] : va_W)) [0, 2] (by decide) rfl).weaken (fun _ _ _ _ => trivial)) (k_refuse2 l D k ad _) gV_RX6_61 (by decide +kernel) rfl rfl ⟨Nat.le_of_ble_eq_true rfl, Nat.le_of_ble_eq_true rfl⟩ rfl rfl rfl rfl (Nat.le_of_ble_eq_true rfl) dX6_way_32 ⟨Nat.le_of_ble_eq_true rfl, Nat.le_of_ble_eq_true rfl⟩) (fun r_6 u_4 H locs h_5 hP hD hS => ?_)
  have h_5 : r_6 = -2 := h_5
  have hP : va_P D gx_cl [((ad 1), .inr (0, [.ref (ad 10), .ref (ad 11), .ref (ad 12), .ref (ad 13), .ref (ad 14), .ref (ad 15), .ref (ad 16), .ref (ad 17), .ref (ad 18), .int 0, .int 0, .int 0, .int 0, .int 1, .int 0, .int 0, .int 0]))] H := hP
  have hD : va_D A [((ad 1), .inr (0, [.ref (ad 10), .ref (ad 11), .ref (ad 12), .ref (ad 13), .ref (ad 14), .ref (ad 15), .ref (ad 16), .ref (ad 17), .ref (ad 18), .int 0, .int 0, .int 0, .int 0, .int 1, .int 0, .int 0, .int 0]))] := hD
  have eh_5 := h_5
  subst eh_5
  exact gx_retI C (u := ()) gx_nil gx_noneD hS (rfl) dX6_way_35
set_option maxHeartbeats 4000000 in
set_option maxRecDepth 100000 in
theorem x_lacks (l : Launch) (D : va_G) (k : Nat → ClassId) (ad : Nat → Nat) (av : Int32) (sz : Nat) : Met l yX6_lacks (.code yX6_lacks cX6_lacks 2 (some .int) :: gx_T) ({ frames := 2, cells := 0, slots := 0, locals := 43 }) (gx_Pre D k [.ref (ad 0), .int av] ([((ad 0), .inr (4, [.ref (ad 1), .ref (ad 2), .ref (ad 3), .ref (ad 4), .ref (ad 5), .ref (ad 6), .ref (ad 7), .ref (ad 8), .ref (ad 9), .int 0])), ((ad 1), .inr (0, [.ref (ad 10), .ref (ad 11), .ref (ad 12), .ref (ad 13), .ref (ad 14), .ref (ad 15), .ref (ad 16), .ref (ad 17), .ref (ad 18), .int 0, .int 0, .int 0, .int 0, .int 1, .int 0, .int 0, .int 0])), ((ad 9), .inl (k 0, 5, .inl (fun _ => 0)))]) sz) (gx_Qi D (fun (r : Int32) (u : Unit) => r = -2) (fun (u : Unit) => ([] : va_W)) (va_A ([((ad 0), .inr (4, [.ref (ad 1), .ref (ad 2), .ref (ad 3), .ref (ad 4), .ref (ad 5), .ref (ad 6), .ref (ad 7), .ref (ad 8), .ref (ad 9), .int 0])), ((ad 1), .inr (0, [.ref (ad 10), .ref (ad 11), .ref (ad 12), .ref (ad 13), .ref (ad 14), .ref (ad 15), .ref (ad 16), .ref (ad 17), .ref (ad 18), .int 0, .int 0, .int 0, .int 0, .int 1, .int 0, .int 0, .int 0])), ((ad 9), .inl (k 0, 5, .inl (fun _ => 0)))]) sz)) 0 0 (va_A ([((ad 0), .inr (4, [.ref (ad 1), .ref (ad 2), .ref (ad 3), .ref (ad 4), .ref (ad 5), .ref (ad 6), .ref (ad 7), .ref (ad 8), .ref (ad 9), .int 0])), ((ad 1), .inr (0, [.ref (ad 10), .ref (ad 11), .ref (ad 12), .ref (ad 13), .ref (ad 14), .ref (ad 15), .ref (ad 16), .ref (ad 17), .ref (ad 18), .int 0, .int 0, .int 0, .int 0, .int 1, .int 0, .int 0, .int 0])), ((ad 9), .inl (k 0, 5, .inl (fun _ => 0)))]) sz) := by
  refine gx_metE (Qc := fun A => gx_Qi D (fun (r : Int32) (u : Unit) => r = -2) (fun (u : Unit) => ([] : va_W)) A) (by decide) (Nat.le_of_ble_eq_true rfl) ?_
  intro p e s m below meth c A ls C hA hP hD hK hS hl
  obtain ⟨hx, hb, hr, hml, hown, hT, hlk, hin⟩ := id C
  have hown : s.vm.findClass RX6 = some m.cls := hown
  have hl : lv_has ls 2 [(0, .ref (ad 0)), (1, .int av)] := hl
  refine lv_aload_n hx hb dX6_lacks_0 rfl (lv_at hl 0 rfl) ?_
  refine lv_iload_n hx hb dX6_lacks_1 rfl (lv_at hl 1 rfl) ?_
  refine gx_pi hP hS (gx_runV (na := 1) (As := [.int av]) (rest := []) (ci := 4) C hl.1 hK (gx_subP (wc := ([((ad 0), .inr (4, [.ref (ad 1), .ref (ad 2), .ref (ad 3), .ref (ad 4), .ref (ad 5), .ref (ad 6), .ref (ad 7), .ref (ad 8), .ref (ad 9), .int 0])), ((ad 1), .inr (0, [.ref (ad 10), .ref (ad 11), .ref (ad 12), .ref (ad 13), .ref (ad 14), .ref (ad 15), .ref (ad 16), .ref (ad 17), .ref (ad 18), .int 0, .int 0, .int 0, .int 0, .int 1, .int 0, .int 0, .int 0]))] : va_W)) hP [0, 1] rfl) ((hD.sub (ws' := ([((ad 0), .inr (4, [.ref (ad 1), .ref (ad 2), .ref (ad 3), .ref (ad 4), .ref (ad 5), .ref (ad 6), .ref (ad 7), .ref (ad 8), .ref (ad 9), .int 0])), ((ad 1), .inr (0, [.ref (ad 10), .ref (ad 11), .ref (ad 12), .ref (ad 13), .ref (ad 14), .ref (ad 15), .ref (ad 16), .ref (ad 17), .ref (ad 18), .int 0, .int 0, .int 0, .int 0, .int 1, .int 0, .int 0, .int 0]))] : va_W)) [0, 1] (by decide) rfl).weaken (fun _ _ _ _ => trivial)) (k_isOne l D k ad av _) gV_RX6_182 (by decide +kernel) rfl rfl ⟨Nat.le_of_ble_eq_true rfl, Nat.le_of_ble_eq_true rfl⟩ rfl rfl rfl rfl (Nat.le_of_ble_eq_true rfl) dX6_lacks_2 ⟨Nat.le_of_ble_eq_true rfl, Nat.le_of_ble_eq_true rfl⟩) (fun r_2 H locs c_1 hP hS => ?_)
  have c_1 : r_2 = 0 := c_1
  subst c_1
  refine lv_if_eq (tgt := 26) hx hb dX6_lacks_5 (by decide) (fun c_3 => ?_) (fun c_3 => absurd (by decide) c_3)
  refine lv_aload_n hx hb dX6_lacks_26 rfl (lv_at hl 0 rfl) ?_
  refine lv_bipush (v := (-2)) hx hb dX6_lacks_27 (by decide) ?_
  refine gx_ei (wc := ([((ad 0), .inr (4, [.ref (ad 1), .ref (ad 2), .ref (ad 3), .ref (ad 4), .ref (ad 5), .ref (ad 6), .ref (ad 7), .ref (ad 8), .ref (ad 9), .int 0])), ((ad 9), .inl (k 0, 5, .inl (fun _ => 0)))] : va_W)) (wr := [((ad 1), .inr (0, [.ref (ad 10), .ref (ad 11), .ref (ad 12), .ref (ad 13), .ref (ad 14), .ref (ad 15), .ref (ad 16), .ref (ad 17), .ref (ad 18), .int 0, .int 0, .int 0, .int 0, .int 1, .int 0, .int 0, .int 0]))]) (isC := [0, 2]) (isR := [1]) hP hD hS hA rfl rfl (by decide) (by decide) (gx_runV (na := 1) (As := [.int (-2)]) (rest := []) (ci := 4) C hl.1 hK (gx_subP (wc := ([((ad 0), .inr (4, [.ref (ad 1), .ref (ad 2), .ref (ad 3), .ref (ad 4), .ref (ad 5), .ref (ad 6), .ref (ad 7), .ref (ad 8), .ref (ad 9), .int 0])), ((ad 9), .inl (k 0, 5, .inl (fun _ => 0)))] : va_W)) hP [0, 2] rfl) ((hD.sub (ws' := ([((ad 0), .inr (4, [.ref (ad 1), .ref (ad 2), .ref (ad 3), .ref (ad 4), .ref (ad 5), .ref (ad 6), .ref (ad 7), .ref (ad 8), .ref (ad 9), .int 0])), ((ad 9), .inl (k 0, 5, .inl (fun _ => 0)))] : va_W)) [0, 2] (by decide) rfl).weaken (fun _ _ _ _ => trivial)) (k_refuse2 l D k ad _) gV_RX6_61 (by decide +kernel) rfl rfl ⟨Nat.le_of_ble_eq_true rfl, Nat.le_of_ble_eq_true rfl⟩ rfl rfl rfl rfl (Nat.le_of_ble_eq_true rfl) dX6_lacks_29 ⟨Nat.le_of_ble_eq_true rfl, Nat.le_of_ble_eq_true rfl⟩) (fun r_6 u_4 H locs h_5 hP hD hS => ?_)
  have h_5 : r_6 = -2 := h_5
  have hP : va_P D gx_cl [((ad 1), .inr (0, [.ref (ad 10), .ref (ad 11), .ref (ad 12), .ref (ad 13), .ref (ad 14), .ref (ad 15), .ref (ad 16), .ref (ad 17), .ref (ad 18), .int 0, .int 0, .int 0, .int 0, .int 1, .int 0, .int 0, .int 0]))] H := hP
  have hD : va_D A [((ad 1), .inr (0, [.ref (ad 10), .ref (ad 11), .ref (ad 12), .ref (ad 13), .ref (ad 14), .ref (ad 15), .ref (ad 16), .ref (ad 17), .ref (ad 18), .int 0, .int 0, .int 0, .int 0, .int 1, .int 0, .int 0, .int 0]))] := hD
  have eh_5 := h_5
  subst eh_5
  exact gx_retI C (u := ()) gx_nil gx_noneD hS (rfl) dX6_lacks_32
set_option maxHeartbeats 4000000 in
set_option maxRecDepth 100000 in
theorem x_longest (l : Launch) (D : va_G) (k : Nat → ClassId) (ad : Nat → Nat) (av : Int32) (bv : Int32) (sz : Nat) : Met l yX6_longest (.code yX6_longest cX6_longest 4 (some .int) :: gx_T) ({ frames := 2, cells := 0, slots := 0, locals := 43 }) (gx_Pre D k [.ref (ad 0), .int av, .int bv] ([((ad 0), .inr (4, [.ref (ad 1), .ref (ad 2), .ref (ad 3), .ref (ad 4), .ref (ad 5), .ref (ad 6), .ref (ad 7), .ref (ad 8), .ref (ad 9), .int 0])), ((ad 1), .inr (0, [.ref (ad 10), .ref (ad 11), .ref (ad 12), .ref (ad 13), .ref (ad 14), .ref (ad 15), .ref (ad 16), .ref (ad 17), .ref (ad 18), .int 0, .int 0, .int 0, .int 0, .int 1, .int 0, .int 0, .int 0])), ((ad 9), .inl (k 0, 5, .inl (fun _ => 0)))]) sz) (gx_Qi D (fun (r : Int32) (u : Unit) => r = -2) (fun (u : Unit) => ([] : va_W)) (va_A ([((ad 0), .inr (4, [.ref (ad 1), .ref (ad 2), .ref (ad 3), .ref (ad 4), .ref (ad 5), .ref (ad 6), .ref (ad 7), .ref (ad 8), .ref (ad 9), .int 0])), ((ad 1), .inr (0, [.ref (ad 10), .ref (ad 11), .ref (ad 12), .ref (ad 13), .ref (ad 14), .ref (ad 15), .ref (ad 16), .ref (ad 17), .ref (ad 18), .int 0, .int 0, .int 0, .int 0, .int 1, .int 0, .int 0, .int 0])), ((ad 9), .inl (k 0, 5, .inl (fun _ => 0)))]) sz)) 0 0 (va_A ([((ad 0), .inr (4, [.ref (ad 1), .ref (ad 2), .ref (ad 3), .ref (ad 4), .ref (ad 5), .ref (ad 6), .ref (ad 7), .ref (ad 8), .ref (ad 9), .int 0])), ((ad 1), .inr (0, [.ref (ad 10), .ref (ad 11), .ref (ad 12), .ref (ad 13), .ref (ad 14), .ref (ad 15), .ref (ad 16), .ref (ad 17), .ref (ad 18), .int 0, .int 0, .int 0, .int 0, .int 1, .int 0, .int 0, .int 0])), ((ad 9), .inl (k 0, 5, .inl (fun _ => 0)))]) sz) := by
  refine gx_metE (Qc := fun A => gx_Qi D (fun (r : Int32) (u : Unit) => r = -2) (fun (u : Unit) => ([] : va_W)) A) (by decide) (Nat.le_of_ble_eq_true rfl) ?_
  intro p e s m below meth c A ls C hA hP hD hK hS hl
  obtain ⟨hx, hb, hr, hml, hown, hT, hlk, hin⟩ := id C
  have hown : s.vm.findClass RX6 = some m.cls := hown
  have hl : lv_has ls 4 [(0, .ref (ad 0)), (1, .int av), (2, .int bv)] := hl
  refine lv_aload_n hx hb dX6_longest_0 rfl (lv_at hl 0 rfl) ?_
  refine lv_iload_n hx hb dX6_longest_1 rfl (lv_at hl 1 rfl) ?_
  refine gx_pi hP hS (gx_runV (na := 1) (As := [.int av]) (rest := []) (ci := 4) C hl.1 hK (gx_subP (wc := ([((ad 0), .inr (4, [.ref (ad 1), .ref (ad 2), .ref (ad 3), .ref (ad 4), .ref (ad 5), .ref (ad 6), .ref (ad 7), .ref (ad 8), .ref (ad 9), .int 0])), ((ad 1), .inr (0, [.ref (ad 10), .ref (ad 11), .ref (ad 12), .ref (ad 13), .ref (ad 14), .ref (ad 15), .ref (ad 16), .ref (ad 17), .ref (ad 18), .int 0, .int 0, .int 0, .int 0, .int 1, .int 0, .int 0, .int 0]))] : va_W)) hP [0, 1] rfl) ((hD.sub (ws' := ([((ad 0), .inr (4, [.ref (ad 1), .ref (ad 2), .ref (ad 3), .ref (ad 4), .ref (ad 5), .ref (ad 6), .ref (ad 7), .ref (ad 8), .ref (ad 9), .int 0])), ((ad 1), .inr (0, [.ref (ad 10), .ref (ad 11), .ref (ad 12), .ref (ad 13), .ref (ad 14), .ref (ad 15), .ref (ad 16), .ref (ad 17), .ref (ad 18), .int 0, .int 0, .int 0, .int 0, .int 1, .int 0, .int 0, .int 0]))] : va_W)) [0, 1] (by decide) rfl).weaken (fun _ _ _ _ => trivial)) (k_isOne l D k ad av _) gV_RX6_182 (by decide +kernel) rfl rfl ⟨Nat.le_of_ble_eq_true rfl, Nat.le_of_ble_eq_true rfl⟩ rfl rfl rfl rfl (Nat.le_of_ble_eq_true rfl) dX6_longest_2 ⟨Nat.le_of_ble_eq_true rfl, Nat.le_of_ble_eq_true rfl⟩) (fun r_2 H locs c_1 hP hS => ?_)
  have c_1 : r_2 = 0 := c_1
  subst c_1
  refine lv_if_eq (tgt := 17) hx hb dX6_longest_5 (by decide) (fun c_3 => ?_) (fun c_3 => absurd (by decide) c_3)
  refine lv_aload_n hx hb dX6_longest_17 rfl (lv_at hl 0 rfl) ?_
  refine lv_bipush (v := (-2)) hx hb dX6_longest_18 (by decide) ?_
  refine gx_ei (wc := ([((ad 0), .inr (4, [.ref (ad 1), .ref (ad 2), .ref (ad 3), .ref (ad 4), .ref (ad 5), .ref (ad 6), .ref (ad 7), .ref (ad 8), .ref (ad 9), .int 0])), ((ad 9), .inl (k 0, 5, .inl (fun _ => 0)))] : va_W)) (wr := [((ad 1), .inr (0, [.ref (ad 10), .ref (ad 11), .ref (ad 12), .ref (ad 13), .ref (ad 14), .ref (ad 15), .ref (ad 16), .ref (ad 17), .ref (ad 18), .int 0, .int 0, .int 0, .int 0, .int 1, .int 0, .int 0, .int 0]))]) (isC := [0, 2]) (isR := [1]) hP hD hS hA rfl rfl (by decide) (by decide) (gx_runV (na := 1) (As := [.int (-2)]) (rest := []) (ci := 4) C hl.1 hK (gx_subP (wc := ([((ad 0), .inr (4, [.ref (ad 1), .ref (ad 2), .ref (ad 3), .ref (ad 4), .ref (ad 5), .ref (ad 6), .ref (ad 7), .ref (ad 8), .ref (ad 9), .int 0])), ((ad 9), .inl (k 0, 5, .inl (fun _ => 0)))] : va_W)) hP [0, 2] rfl) ((hD.sub (ws' := ([((ad 0), .inr (4, [.ref (ad 1), .ref (ad 2), .ref (ad 3), .ref (ad 4), .ref (ad 5), .ref (ad 6), .ref (ad 7), .ref (ad 8), .ref (ad 9), .int 0])), ((ad 9), .inl (k 0, 5, .inl (fun _ => 0)))] : va_W)) [0, 2] (by decide) rfl).weaken (fun _ _ _ _ => trivial)) (k_refuse2 l D k ad _) gV_RX6_61 (by decide +kernel) rfl rfl ⟨Nat.le_of_ble_eq_true rfl, Nat.le_of_ble_eq_true rfl⟩ rfl rfl rfl rfl (Nat.le_of_ble_eq_true rfl) dX6_longest_20 ⟨Nat.le_of_ble_eq_true rfl, Nat.le_of_ble_eq_true rfl⟩) (fun r_6 u_4 H locs h_5 hP hD hS => ?_)
  have h_5 : r_6 = -2 := h_5
  have hP : va_P D gx_cl [((ad 1), .inr (0, [.ref (ad 10), .ref (ad 11), .ref (ad 12), .ref (ad 13), .ref (ad 14), .ref (ad 15), .ref (ad 16), .ref (ad 17), .ref (ad 18), .int 0, .int 0, .int 0, .int 0, .int 1, .int 0, .int 0, .int 0]))] H := hP
  have hD : va_D A [((ad 1), .inr (0, [.ref (ad 10), .ref (ad 11), .ref (ad 12), .ref (ad 13), .ref (ad 14), .ref (ad 15), .ref (ad 16), .ref (ad 17), .ref (ad 18), .int 0, .int 0, .int 0, .int 0, .int 1, .int 0, .int 0, .int 0]))] := hD
  have eh_5 := h_5
  subst eh_5
  exact gx_retI C (u := ()) gx_nil gx_noneD hS (rfl) dX6_longest_23
set_option maxHeartbeats 4000000 in
set_option maxRecDepth 100000 in
theorem x_errands (l : Launch) (D : va_G) (k : Nat → ClassId) (ad : Nat → Nat) (av : Int32) (bv : Int32) (cv : Int32) (sz : Nat) : Met l yX6_errands (.code yX6_errands cX6_errands 4 (some .int) :: gx_T) ({ frames := 2, cells := 0, slots := 0, locals := 43 }) (gx_Pre D k [.ref (ad 0), .int av, .int bv, .int cv] ([((ad 0), .inr (4, [.ref (ad 1), .ref (ad 2), .ref (ad 3), .ref (ad 4), .ref (ad 5), .ref (ad 6), .ref (ad 7), .ref (ad 8), .ref (ad 9), .int 0])), ((ad 1), .inr (0, [.ref (ad 10), .ref (ad 11), .ref (ad 12), .ref (ad 13), .ref (ad 14), .ref (ad 15), .ref (ad 16), .ref (ad 17), .ref (ad 18), .int 0, .int 0, .int 0, .int 0, .int 1, .int 0, .int 0, .int 0])), ((ad 9), .inl (k 0, 5, .inl (fun _ => 0)))]) sz) (gx_Qi D (fun (r : Int32) (u : Unit) => r = -2) (fun (u : Unit) => ([] : va_W)) (va_A ([((ad 0), .inr (4, [.ref (ad 1), .ref (ad 2), .ref (ad 3), .ref (ad 4), .ref (ad 5), .ref (ad 6), .ref (ad 7), .ref (ad 8), .ref (ad 9), .int 0])), ((ad 1), .inr (0, [.ref (ad 10), .ref (ad 11), .ref (ad 12), .ref (ad 13), .ref (ad 14), .ref (ad 15), .ref (ad 16), .ref (ad 17), .ref (ad 18), .int 0, .int 0, .int 0, .int 0, .int 1, .int 0, .int 0, .int 0])), ((ad 9), .inl (k 0, 5, .inl (fun _ => 0)))]) sz)) 0 0 (va_A ([((ad 0), .inr (4, [.ref (ad 1), .ref (ad 2), .ref (ad 3), .ref (ad 4), .ref (ad 5), .ref (ad 6), .ref (ad 7), .ref (ad 8), .ref (ad 9), .int 0])), ((ad 1), .inr (0, [.ref (ad 10), .ref (ad 11), .ref (ad 12), .ref (ad 13), .ref (ad 14), .ref (ad 15), .ref (ad 16), .ref (ad 17), .ref (ad 18), .int 0, .int 0, .int 0, .int 0, .int 1, .int 0, .int 0, .int 0])), ((ad 9), .inl (k 0, 5, .inl (fun _ => 0)))]) sz) := by
  refine gx_metE (Qc := fun A => gx_Qi D (fun (r : Int32) (u : Unit) => r = -2) (fun (u : Unit) => ([] : va_W)) A) (by decide) (Nat.le_of_ble_eq_true rfl) ?_
  intro p e s m below meth c A ls C hA hP hD hK hS hl
  obtain ⟨hx, hb, hr, hml, hown, hT, hlk, hin⟩ := id C
  have hown : s.vm.findClass RX6 = some m.cls := hown
  have hl : lv_has ls 4 [(0, .ref (ad 0)), (1, .int av), (2, .int bv), (3, .int cv)] := hl
  refine lv_aload_n hx hb dX6_errands_0 rfl (lv_at hl 0 rfl) ?_
  refine lv_iload_n hx hb dX6_errands_1 rfl (lv_at hl 1 rfl) ?_
  refine gx_pi hP hS (gx_runV (na := 1) (As := [.int av]) (rest := []) (ci := 4) C hl.1 hK (gx_subP (wc := ([((ad 0), .inr (4, [.ref (ad 1), .ref (ad 2), .ref (ad 3), .ref (ad 4), .ref (ad 5), .ref (ad 6), .ref (ad 7), .ref (ad 8), .ref (ad 9), .int 0])), ((ad 1), .inr (0, [.ref (ad 10), .ref (ad 11), .ref (ad 12), .ref (ad 13), .ref (ad 14), .ref (ad 15), .ref (ad 16), .ref (ad 17), .ref (ad 18), .int 0, .int 0, .int 0, .int 0, .int 1, .int 0, .int 0, .int 0]))] : va_W)) hP [0, 1] rfl) ((hD.sub (ws' := ([((ad 0), .inr (4, [.ref (ad 1), .ref (ad 2), .ref (ad 3), .ref (ad 4), .ref (ad 5), .ref (ad 6), .ref (ad 7), .ref (ad 8), .ref (ad 9), .int 0])), ((ad 1), .inr (0, [.ref (ad 10), .ref (ad 11), .ref (ad 12), .ref (ad 13), .ref (ad 14), .ref (ad 15), .ref (ad 16), .ref (ad 17), .ref (ad 18), .int 0, .int 0, .int 0, .int 0, .int 1, .int 0, .int 0, .int 0]))] : va_W)) [0, 1] (by decide) rfl).weaken (fun _ _ _ _ => trivial)) (k_isOne l D k ad av _) gV_RX6_182 (by decide +kernel) rfl rfl ⟨Nat.le_of_ble_eq_true rfl, Nat.le_of_ble_eq_true rfl⟩ rfl rfl rfl rfl (Nat.le_of_ble_eq_true rfl) dX6_errands_2 ⟨Nat.le_of_ble_eq_true rfl, Nat.le_of_ble_eq_true rfl⟩) (fun r_2 H locs c_1 hP hS => ?_)
  have c_1 : r_2 = 0 := c_1
  subst c_1
  refine lv_if_eq (tgt := 27) hx hb dX6_errands_5 (by decide) (fun c_3 => ?_) (fun c_3 => absurd (by decide) c_3)
  refine lv_aload_n hx hb dX6_errands_27 rfl (lv_at hl 0 rfl) ?_
  refine lv_bipush (v := (-2)) hx hb dX6_errands_28 (by decide) ?_
  refine gx_ei (wc := ([((ad 0), .inr (4, [.ref (ad 1), .ref (ad 2), .ref (ad 3), .ref (ad 4), .ref (ad 5), .ref (ad 6), .ref (ad 7), .ref (ad 8), .ref (ad 9), .int 0])), ((ad 9), .inl (k 0, 5, .inl (fun _ => 0)))] : va_W)) (wr := [((ad 1), .inr (0, [.ref (ad 10), .ref (ad 11), .ref (ad 12), .ref (ad 13), .ref (ad 14), .ref (ad 15), .ref (ad 16), .ref (ad 17), .ref (ad 18), .int 0, .int 0, .int 0, .int 0, .int 1, .int 0, .int 0, .int 0]))]) (isC := [0, 2]) (isR := [1]) hP hD hS hA rfl rfl (by decide) (by decide) (gx_runV (na := 1) (As := [.int (-2)]) (rest := []) (ci := 4) C hl.1 hK (gx_subP (wc := ([((ad 0), .inr (4, [.ref (ad 1), .ref (ad 2), .ref (ad 3), .ref (ad 4), .ref (ad 5), .ref (ad 6), .ref (ad 7), .ref (ad 8), .ref (ad 9), .int 0])), ((ad 9), .inl (k 0, 5, .inl (fun _ => 0)))] : va_W)) hP [0, 2] rfl) ((hD.sub (ws' := ([((ad 0), .inr (4, [.ref (ad 1), .ref (ad 2), .ref (ad 3), .ref (ad 4), .ref (ad 5), .ref (ad 6), .ref (ad 7), .ref (ad 8), .ref (ad 9), .int 0])), ((ad 9), .inl (k 0, 5, .inl (fun _ => 0)))] : va_W)) [0, 2] (by decide) rfl).weaken (fun _ _ _ _ => trivial)) (k_refuse2 l D k ad _) gV_RX6_61 (by decide +kernel) rfl rfl ⟨Nat.le_of_ble_eq_true rfl, Nat.le_of_ble_eq_true rfl⟩ rfl rfl rfl rfl (Nat.le_of_ble_eq_true rfl) dX6_errands_30 ⟨Nat.le_of_ble_eq_true rfl, Nat.le_of_ble_eq_true rfl⟩) (fun r_6 u_4 H locs h_5 hP hD hS => ?_)
  have h_5 : r_6 = -2 := h_5
  have hP : va_P D gx_cl [((ad 1), .inr (0, [.ref (ad 10), .ref (ad 11), .ref (ad 12), .ref (ad 13), .ref (ad 14), .ref (ad 15), .ref (ad 16), .ref (ad 17), .ref (ad 18), .int 0, .int 0, .int 0, .int 0, .int 1, .int 0, .int 0, .int 0]))] H := hP
  have hD : va_D A [((ad 1), .inr (0, [.ref (ad 10), .ref (ad 11), .ref (ad 12), .ref (ad 13), .ref (ad 14), .ref (ad 15), .ref (ad 16), .ref (ad 17), .ref (ad 18), .int 0, .int 0, .int 0, .int 0, .int 1, .int 0, .int 0, .int 0]))] := hD
  have eh_5 := h_5
  subst eh_5
  exact gx_retI C (u := ()) gx_nil gx_noneD hS (rfl) dX6_errands_33
set_option maxHeartbeats 4000000 in
set_option maxRecDepth 100000 in
theorem x_cut (l : Launch) (D : va_G) (k : Nat → ClassId) (ad : Nat → Nat) (av : Int32) (bv : Int32) (cv : Int32) (sz : Nat) : Met l yX6_cut (.code yX6_cut cX6_cut 4 (some .int) :: gx_T) ({ frames := 2, cells := 0, slots := 0, locals := 43 }) (gx_Pre D k [.ref (ad 0), .int av, .int bv, .int cv] ([((ad 0), .inr (4, [.ref (ad 1), .ref (ad 2), .ref (ad 3), .ref (ad 4), .ref (ad 5), .ref (ad 6), .ref (ad 7), .ref (ad 8), .ref (ad 9), .int 0])), ((ad 1), .inr (0, [.ref (ad 10), .ref (ad 11), .ref (ad 12), .ref (ad 13), .ref (ad 14), .ref (ad 15), .ref (ad 16), .ref (ad 17), .ref (ad 18), .int 0, .int 0, .int 0, .int 0, .int 1, .int 0, .int 0, .int 0])), ((ad 9), .inl (k 0, 5, .inl (fun _ => 0)))]) sz) (gx_Qi D (fun (r : Int32) (u : Unit) => r = -2) (fun (u : Unit) => ([] : va_W)) (va_A ([((ad 0), .inr (4, [.ref (ad 1), .ref (ad 2), .ref (ad 3), .ref (ad 4), .ref (ad 5), .ref (ad 6), .ref (ad 7), .ref (ad 8), .ref (ad 9), .int 0])), ((ad 1), .inr (0, [.ref (ad 10), .ref (ad 11), .ref (ad 12), .ref (ad 13), .ref (ad 14), .ref (ad 15), .ref (ad 16), .ref (ad 17), .ref (ad 18), .int 0, .int 0, .int 0, .int 0, .int 1, .int 0, .int 0, .int 0])), ((ad 9), .inl (k 0, 5, .inl (fun _ => 0)))]) sz)) 0 0 (va_A ([((ad 0), .inr (4, [.ref (ad 1), .ref (ad 2), .ref (ad 3), .ref (ad 4), .ref (ad 5), .ref (ad 6), .ref (ad 7), .ref (ad 8), .ref (ad 9), .int 0])), ((ad 1), .inr (0, [.ref (ad 10), .ref (ad 11), .ref (ad 12), .ref (ad 13), .ref (ad 14), .ref (ad 15), .ref (ad 16), .ref (ad 17), .ref (ad 18), .int 0, .int 0, .int 0, .int 0, .int 1, .int 0, .int 0, .int 0])), ((ad 9), .inl (k 0, 5, .inl (fun _ => 0)))]) sz) := by
  refine gx_metE (Qc := fun A => gx_Qi D (fun (r : Int32) (u : Unit) => r = -2) (fun (u : Unit) => ([] : va_W)) A) (by decide) (Nat.le_of_ble_eq_true rfl) ?_
  intro p e s m below meth c A ls C hA hP hD hK hS hl
  obtain ⟨hx, hb, hr, hml, hown, hT, hlk, hin⟩ := id C
  have hown : s.vm.findClass RX6 = some m.cls := hown
  have hl : lv_has ls 4 [(0, .ref (ad 0)), (1, .int av), (2, .int bv), (3, .int cv)] := hl
  refine lv_aload_n hx hb dX6_cut_0 rfl (lv_at hl 0 rfl) ?_
  refine lv_iload_n hx hb dX6_cut_1 rfl (lv_at hl 1 rfl) ?_
  refine gx_pi hP hS (gx_runV (na := 1) (As := [.int av]) (rest := []) (ci := 4) C hl.1 hK (gx_subP (wc := ([((ad 0), .inr (4, [.ref (ad 1), .ref (ad 2), .ref (ad 3), .ref (ad 4), .ref (ad 5), .ref (ad 6), .ref (ad 7), .ref (ad 8), .ref (ad 9), .int 0])), ((ad 1), .inr (0, [.ref (ad 10), .ref (ad 11), .ref (ad 12), .ref (ad 13), .ref (ad 14), .ref (ad 15), .ref (ad 16), .ref (ad 17), .ref (ad 18), .int 0, .int 0, .int 0, .int 0, .int 1, .int 0, .int 0, .int 0]))] : va_W)) hP [0, 1] rfl) ((hD.sub (ws' := ([((ad 0), .inr (4, [.ref (ad 1), .ref (ad 2), .ref (ad 3), .ref (ad 4), .ref (ad 5), .ref (ad 6), .ref (ad 7), .ref (ad 8), .ref (ad 9), .int 0])), ((ad 1), .inr (0, [.ref (ad 10), .ref (ad 11), .ref (ad 12), .ref (ad 13), .ref (ad 14), .ref (ad 15), .ref (ad 16), .ref (ad 17), .ref (ad 18), .int 0, .int 0, .int 0, .int 0, .int 1, .int 0, .int 0, .int 0]))] : va_W)) [0, 1] (by decide) rfl).weaken (fun _ _ _ _ => trivial)) (k_isOne l D k ad av _) gV_RX6_182 (by decide +kernel) rfl rfl ⟨Nat.le_of_ble_eq_true rfl, Nat.le_of_ble_eq_true rfl⟩ rfl rfl rfl rfl (Nat.le_of_ble_eq_true rfl) dX6_cut_2 ⟨Nat.le_of_ble_eq_true rfl, Nat.le_of_ble_eq_true rfl⟩) (fun r_2 H locs c_1 hP hS => ?_)
  have c_1 : r_2 = 0 := c_1
  subst c_1
  refine lv_if_eq (tgt := 27) hx hb dX6_cut_5 (by decide) (fun c_3 => ?_) (fun c_3 => absurd (by decide) c_3)
  refine lv_aload_n hx hb dX6_cut_27 rfl (lv_at hl 0 rfl) ?_
  refine lv_bipush (v := (-2)) hx hb dX6_cut_28 (by decide) ?_
  refine gx_ei (wc := ([((ad 0), .inr (4, [.ref (ad 1), .ref (ad 2), .ref (ad 3), .ref (ad 4), .ref (ad 5), .ref (ad 6), .ref (ad 7), .ref (ad 8), .ref (ad 9), .int 0])), ((ad 9), .inl (k 0, 5, .inl (fun _ => 0)))] : va_W)) (wr := [((ad 1), .inr (0, [.ref (ad 10), .ref (ad 11), .ref (ad 12), .ref (ad 13), .ref (ad 14), .ref (ad 15), .ref (ad 16), .ref (ad 17), .ref (ad 18), .int 0, .int 0, .int 0, .int 0, .int 1, .int 0, .int 0, .int 0]))]) (isC := [0, 2]) (isR := [1]) hP hD hS hA rfl rfl (by decide) (by decide) (gx_runV (na := 1) (As := [.int (-2)]) (rest := []) (ci := 4) C hl.1 hK (gx_subP (wc := ([((ad 0), .inr (4, [.ref (ad 1), .ref (ad 2), .ref (ad 3), .ref (ad 4), .ref (ad 5), .ref (ad 6), .ref (ad 7), .ref (ad 8), .ref (ad 9), .int 0])), ((ad 9), .inl (k 0, 5, .inl (fun _ => 0)))] : va_W)) hP [0, 2] rfl) ((hD.sub (ws' := ([((ad 0), .inr (4, [.ref (ad 1), .ref (ad 2), .ref (ad 3), .ref (ad 4), .ref (ad 5), .ref (ad 6), .ref (ad 7), .ref (ad 8), .ref (ad 9), .int 0])), ((ad 9), .inl (k 0, 5, .inl (fun _ => 0)))] : va_W)) [0, 2] (by decide) rfl).weaken (fun _ _ _ _ => trivial)) (k_refuse2 l D k ad _) gV_RX6_61 (by decide +kernel) rfl rfl ⟨Nat.le_of_ble_eq_true rfl, Nat.le_of_ble_eq_true rfl⟩ rfl rfl rfl rfl (Nat.le_of_ble_eq_true rfl) dX6_cut_30 ⟨Nat.le_of_ble_eq_true rfl, Nat.le_of_ble_eq_true rfl⟩) (fun r_6 u_4 H locs h_5 hP hD hS => ?_)
  have h_5 : r_6 = -2 := h_5
  have hP : va_P D gx_cl [((ad 1), .inr (0, [.ref (ad 10), .ref (ad 11), .ref (ad 12), .ref (ad 13), .ref (ad 14), .ref (ad 15), .ref (ad 16), .ref (ad 17), .ref (ad 18), .int 0, .int 0, .int 0, .int 0, .int 1, .int 0, .int 0, .int 0]))] H := hP
  have hD : va_D A [((ad 1), .inr (0, [.ref (ad 10), .ref (ad 11), .ref (ad 12), .ref (ad 13), .ref (ad 14), .ref (ad 15), .ref (ad 16), .ref (ad 17), .ref (ad 18), .int 0, .int 0, .int 0, .int 0, .int 1, .int 0, .int 0, .int 0]))] := hD
  have eh_5 := h_5
  subst eh_5
  exact gx_retI C (u := ()) gx_nil gx_noneD hS (rfl) dX6_cut_33
set_option maxHeartbeats 4000000 in
set_option maxRecDepth 100000 in
theorem x_meets (l : Launch) (D : va_G) (k : Nat → ClassId) (ad : Nat → Nat) (av : Int32) (bv : Int32) (cv : Int32) (sz : Nat) : Met l yX6_meets (.code yX6_meets cX6_meets 6 (some .int) :: gx_T) ({ frames := 2, cells := 0, slots := 0, locals := 43 }) (gx_Pre D k [.ref (ad 0), .int av, .int bv, .int cv] ([((ad 0), .inr (4, [.ref (ad 1), .ref (ad 2), .ref (ad 3), .ref (ad 4), .ref (ad 5), .ref (ad 6), .ref (ad 7), .ref (ad 8), .ref (ad 9), .int 0])), ((ad 1), .inr (0, [.ref (ad 10), .ref (ad 11), .ref (ad 12), .ref (ad 13), .ref (ad 14), .ref (ad 15), .ref (ad 16), .ref (ad 17), .ref (ad 18), .int 0, .int 0, .int 0, .int 0, .int 1, .int 0, .int 0, .int 0])), ((ad 9), .inl (k 0, 5, .inl (fun _ => 0)))]) sz) (gx_Qi D (fun (r : Int32) (u : Unit) => r = -2) (fun (u : Unit) => ([] : va_W)) (va_A ([((ad 0), .inr (4, [.ref (ad 1), .ref (ad 2), .ref (ad 3), .ref (ad 4), .ref (ad 5), .ref (ad 6), .ref (ad 7), .ref (ad 8), .ref (ad 9), .int 0])), ((ad 1), .inr (0, [.ref (ad 10), .ref (ad 11), .ref (ad 12), .ref (ad 13), .ref (ad 14), .ref (ad 15), .ref (ad 16), .ref (ad 17), .ref (ad 18), .int 0, .int 0, .int 0, .int 0, .int 1, .int 0, .int 0, .int 0])), ((ad 9), .inl (k 0, 5, .inl (fun _ => 0)))]) sz)) 0 0 (va_A ([((ad 0), .inr (4, [.ref (ad 1), .ref (ad 2), .ref (ad 3), .ref (ad 4), .ref (ad 5), .ref (ad 6), .ref (ad 7), .ref (ad 8), .ref (ad 9), .int 0])), ((ad 1), .inr (0, [.ref (ad 10), .ref (ad 11), .ref (ad 12), .ref (ad 13), .ref (ad 14), .ref (ad 15), .ref (ad 16), .ref (ad 17), .ref (ad 18), .int 0, .int 0, .int 0, .int 0, .int 1, .int 0, .int 0, .int 0])), ((ad 9), .inl (k 0, 5, .inl (fun _ => 0)))]) sz) := by
  refine gx_metE (Qc := fun A => gx_Qi D (fun (r : Int32) (u : Unit) => r = -2) (fun (u : Unit) => ([] : va_W)) A) (by decide) (Nat.le_of_ble_eq_true rfl) ?_
  intro p e s m below meth c A ls C hA hP hD hK hS hl
  obtain ⟨hx, hb, hr, hml, hown, hT, hlk, hin⟩ := id C
  have hown : s.vm.findClass RX6 = some m.cls := hown
  have hl : lv_has ls 6 [(0, .ref (ad 0)), (1, .int av), (2, .int bv), (3, .int cv)] := hl
  refine lv_aload_n hx hb dX6_meets_0 rfl (lv_at hl 0 rfl) ?_
  refine lv_iload_n hx hb dX6_meets_1 rfl (lv_at hl 1 rfl) ?_
  refine gx_pi hP hS (gx_runV (na := 1) (As := [.int av]) (rest := []) (ci := 4) C hl.1 hK (gx_subP (wc := ([((ad 0), .inr (4, [.ref (ad 1), .ref (ad 2), .ref (ad 3), .ref (ad 4), .ref (ad 5), .ref (ad 6), .ref (ad 7), .ref (ad 8), .ref (ad 9), .int 0])), ((ad 1), .inr (0, [.ref (ad 10), .ref (ad 11), .ref (ad 12), .ref (ad 13), .ref (ad 14), .ref (ad 15), .ref (ad 16), .ref (ad 17), .ref (ad 18), .int 0, .int 0, .int 0, .int 0, .int 1, .int 0, .int 0, .int 0]))] : va_W)) hP [0, 1] rfl) ((hD.sub (ws' := ([((ad 0), .inr (4, [.ref (ad 1), .ref (ad 2), .ref (ad 3), .ref (ad 4), .ref (ad 5), .ref (ad 6), .ref (ad 7), .ref (ad 8), .ref (ad 9), .int 0])), ((ad 1), .inr (0, [.ref (ad 10), .ref (ad 11), .ref (ad 12), .ref (ad 13), .ref (ad 14), .ref (ad 15), .ref (ad 16), .ref (ad 17), .ref (ad 18), .int 0, .int 0, .int 0, .int 0, .int 1, .int 0, .int 0, .int 0]))] : va_W)) [0, 1] (by decide) rfl).weaken (fun _ _ _ _ => trivial)) (k_isOne l D k ad av _) gV_RX6_182 (by decide +kernel) rfl rfl ⟨Nat.le_of_ble_eq_true rfl, Nat.le_of_ble_eq_true rfl⟩ rfl rfl rfl rfl (Nat.le_of_ble_eq_true rfl) dX6_meets_2 ⟨Nat.le_of_ble_eq_true rfl, Nat.le_of_ble_eq_true rfl⟩) (fun r_2 H locs c_1 hP hS => ?_)
  have c_1 : r_2 = 0 := c_1
  subst c_1
  refine lv_if_eq (tgt := 25) hx hb dX6_meets_5 (by decide) (fun c_3 => ?_) (fun c_3 => absurd (by decide) c_3)
  refine lv_aload_n hx hb dX6_meets_25 rfl (lv_at hl 0 rfl) ?_
  refine lv_bipush (v := (-2)) hx hb dX6_meets_26 (by decide) ?_
  refine gx_ei (wc := ([((ad 0), .inr (4, [.ref (ad 1), .ref (ad 2), .ref (ad 3), .ref (ad 4), .ref (ad 5), .ref (ad 6), .ref (ad 7), .ref (ad 8), .ref (ad 9), .int 0])), ((ad 9), .inl (k 0, 5, .inl (fun _ => 0)))] : va_W)) (wr := [((ad 1), .inr (0, [.ref (ad 10), .ref (ad 11), .ref (ad 12), .ref (ad 13), .ref (ad 14), .ref (ad 15), .ref (ad 16), .ref (ad 17), .ref (ad 18), .int 0, .int 0, .int 0, .int 0, .int 1, .int 0, .int 0, .int 0]))]) (isC := [0, 2]) (isR := [1]) hP hD hS hA rfl rfl (by decide) (by decide) (gx_runV (na := 1) (As := [.int (-2)]) (rest := []) (ci := 4) C hl.1 hK (gx_subP (wc := ([((ad 0), .inr (4, [.ref (ad 1), .ref (ad 2), .ref (ad 3), .ref (ad 4), .ref (ad 5), .ref (ad 6), .ref (ad 7), .ref (ad 8), .ref (ad 9), .int 0])), ((ad 9), .inl (k 0, 5, .inl (fun _ => 0)))] : va_W)) hP [0, 2] rfl) ((hD.sub (ws' := ([((ad 0), .inr (4, [.ref (ad 1), .ref (ad 2), .ref (ad 3), .ref (ad 4), .ref (ad 5), .ref (ad 6), .ref (ad 7), .ref (ad 8), .ref (ad 9), .int 0])), ((ad 9), .inl (k 0, 5, .inl (fun _ => 0)))] : va_W)) [0, 2] (by decide) rfl).weaken (fun _ _ _ _ => trivial)) (k_refuse2 l D k ad _) gV_RX6_61 (by decide +kernel) rfl rfl ⟨Nat.le_of_ble_eq_true rfl, Nat.le_of_ble_eq_true rfl⟩ rfl rfl rfl rfl (Nat.le_of_ble_eq_true rfl) dX6_meets_28 ⟨Nat.le_of_ble_eq_true rfl, Nat.le_of_ble_eq_true rfl⟩) (fun r_6 u_4 H locs h_5 hP hD hS => ?_)
  have h_5 : r_6 = -2 := h_5
  have hP : va_P D gx_cl [((ad 1), .inr (0, [.ref (ad 10), .ref (ad 11), .ref (ad 12), .ref (ad 13), .ref (ad 14), .ref (ad 15), .ref (ad 16), .ref (ad 17), .ref (ad 18), .int 0, .int 0, .int 0, .int 0, .int 1, .int 0, .int 0, .int 0]))] H := hP
  have hD : va_D A [((ad 1), .inr (0, [.ref (ad 10), .ref (ad 11), .ref (ad 12), .ref (ad 13), .ref (ad 14), .ref (ad 15), .ref (ad 16), .ref (ad 17), .ref (ad 18), .int 0, .int 0, .int 0, .int 0, .int 1, .int 0, .int 0, .int 0]))] := hD
  have eh_5 := h_5
  subst eh_5
  exact gx_retI C (u := ()) gx_nil gx_noneD hS (rfl) dX6_meets_31
set_option maxHeartbeats 4000000 in
set_option maxRecDepth 100000 in
theorem x_near (l : Launch) (D : va_G) (k : Nat → ClassId) (ad : Nat → Nat) (av : Int32) (bv : Int32) (sz : Nat) : Met l yX6_near (.code yX6_near cX6_near 3 (some .int) :: gx_T) ({ frames := 2, cells := 0, slots := 0, locals := 43 }) (gx_Pre D k [.ref (ad 0), .int av, .int bv] ([((ad 0), .inr (4, [.ref (ad 1), .ref (ad 2), .ref (ad 3), .ref (ad 4), .ref (ad 5), .ref (ad 6), .ref (ad 7), .ref (ad 8), .ref (ad 9), .int 0])), ((ad 1), .inr (0, [.ref (ad 10), .ref (ad 11), .ref (ad 12), .ref (ad 13), .ref (ad 14), .ref (ad 15), .ref (ad 16), .ref (ad 17), .ref (ad 18), .int 0, .int 0, .int 0, .int 0, .int 1, .int 0, .int 0, .int 0])), ((ad 9), .inl (k 0, 5, .inl (fun _ => 0)))]) sz) (gx_Qi D (fun (r : Int32) (u : Unit) => r = -2) (fun (u : Unit) => ([] : va_W)) (va_A ([((ad 0), .inr (4, [.ref (ad 1), .ref (ad 2), .ref (ad 3), .ref (ad 4), .ref (ad 5), .ref (ad 6), .ref (ad 7), .ref (ad 8), .ref (ad 9), .int 0])), ((ad 1), .inr (0, [.ref (ad 10), .ref (ad 11), .ref (ad 12), .ref (ad 13), .ref (ad 14), .ref (ad 15), .ref (ad 16), .ref (ad 17), .ref (ad 18), .int 0, .int 0, .int 0, .int 0, .int 1, .int 0, .int 0, .int 0])), ((ad 9), .inl (k 0, 5, .inl (fun _ => 0)))]) sz)) 0 0 (va_A ([((ad 0), .inr (4, [.ref (ad 1), .ref (ad 2), .ref (ad 3), .ref (ad 4), .ref (ad 5), .ref (ad 6), .ref (ad 7), .ref (ad 8), .ref (ad 9), .int 0])), ((ad 1), .inr (0, [.ref (ad 10), .ref (ad 11), .ref (ad 12), .ref (ad 13), .ref (ad 14), .ref (ad 15), .ref (ad 16), .ref (ad 17), .ref (ad 18), .int 0, .int 0, .int 0, .int 0, .int 1, .int 0, .int 0, .int 0])), ((ad 9), .inl (k 0, 5, .inl (fun _ => 0)))]) sz) := by
  refine gx_metE (Qc := fun A => gx_Qi D (fun (r : Int32) (u : Unit) => r = -2) (fun (u : Unit) => ([] : va_W)) A) (by decide) (Nat.le_of_ble_eq_true rfl) ?_
  intro p e s m below meth c A ls C hA hP hD hK hS hl
  obtain ⟨hx, hb, hr, hml, hown, hT, hlk, hin⟩ := id C
  have hown : s.vm.findClass RX6 = some m.cls := hown
  have hl : lv_has ls 3 [(0, .ref (ad 0)), (1, .int av), (2, .int bv)] := hl
  refine lv_aload_n hx hb dX6_near_0 rfl (lv_at hl 0 rfl) ?_
  refine lv_iload_n hx hb dX6_near_1 rfl (lv_at hl 1 rfl) ?_
  refine gx_pi hP hS (gx_runV (na := 1) (As := [.int av]) (rest := []) (ci := 4) C hl.1 hK (gx_subP (wc := ([((ad 0), .inr (4, [.ref (ad 1), .ref (ad 2), .ref (ad 3), .ref (ad 4), .ref (ad 5), .ref (ad 6), .ref (ad 7), .ref (ad 8), .ref (ad 9), .int 0])), ((ad 1), .inr (0, [.ref (ad 10), .ref (ad 11), .ref (ad 12), .ref (ad 13), .ref (ad 14), .ref (ad 15), .ref (ad 16), .ref (ad 17), .ref (ad 18), .int 0, .int 0, .int 0, .int 0, .int 1, .int 0, .int 0, .int 0]))] : va_W)) hP [0, 1] rfl) ((hD.sub (ws' := ([((ad 0), .inr (4, [.ref (ad 1), .ref (ad 2), .ref (ad 3), .ref (ad 4), .ref (ad 5), .ref (ad 6), .ref (ad 7), .ref (ad 8), .ref (ad 9), .int 0])), ((ad 1), .inr (0, [.ref (ad 10), .ref (ad 11), .ref (ad 12), .ref (ad 13), .ref (ad 14), .ref (ad 15), .ref (ad 16), .ref (ad 17), .ref (ad 18), .int 0, .int 0, .int 0, .int 0, .int 1, .int 0, .int 0, .int 0]))] : va_W)) [0, 1] (by decide) rfl).weaken (fun _ _ _ _ => trivial)) (k_isOne l D k ad av _) gV_RX6_182 (by decide +kernel) rfl rfl ⟨Nat.le_of_ble_eq_true rfl, Nat.le_of_ble_eq_true rfl⟩ rfl rfl rfl rfl (Nat.le_of_ble_eq_true rfl) dX6_near_2 ⟨Nat.le_of_ble_eq_true rfl, Nat.le_of_ble_eq_true rfl⟩) (fun r_2 H locs c_1 hP hS => ?_)
  have c_1 : r_2 = 0 := c_1
  subst c_1
  refine lv_if_eq (tgt := 15) hx hb dX6_near_5 (by decide) (fun c_3 => ?_) (fun c_3 => absurd (by decide) c_3)
  refine lv_aload_n hx hb dX6_near_15 rfl (lv_at hl 0 rfl) ?_
  refine lv_bipush (v := (-2)) hx hb dX6_near_16 (by decide) ?_
  refine gx_ei (wc := ([((ad 0), .inr (4, [.ref (ad 1), .ref (ad 2), .ref (ad 3), .ref (ad 4), .ref (ad 5), .ref (ad 6), .ref (ad 7), .ref (ad 8), .ref (ad 9), .int 0])), ((ad 9), .inl (k 0, 5, .inl (fun _ => 0)))] : va_W)) (wr := [((ad 1), .inr (0, [.ref (ad 10), .ref (ad 11), .ref (ad 12), .ref (ad 13), .ref (ad 14), .ref (ad 15), .ref (ad 16), .ref (ad 17), .ref (ad 18), .int 0, .int 0, .int 0, .int 0, .int 1, .int 0, .int 0, .int 0]))]) (isC := [0, 2]) (isR := [1]) hP hD hS hA rfl rfl (by decide) (by decide) (gx_runV (na := 1) (As := [.int (-2)]) (rest := []) (ci := 4) C hl.1 hK (gx_subP (wc := ([((ad 0), .inr (4, [.ref (ad 1), .ref (ad 2), .ref (ad 3), .ref (ad 4), .ref (ad 5), .ref (ad 6), .ref (ad 7), .ref (ad 8), .ref (ad 9), .int 0])), ((ad 9), .inl (k 0, 5, .inl (fun _ => 0)))] : va_W)) hP [0, 2] rfl) ((hD.sub (ws' := ([((ad 0), .inr (4, [.ref (ad 1), .ref (ad 2), .ref (ad 3), .ref (ad 4), .ref (ad 5), .ref (ad 6), .ref (ad 7), .ref (ad 8), .ref (ad 9), .int 0])), ((ad 9), .inl (k 0, 5, .inl (fun _ => 0)))] : va_W)) [0, 2] (by decide) rfl).weaken (fun _ _ _ _ => trivial)) (k_refuse2 l D k ad _) gV_RX6_61 (by decide +kernel) rfl rfl ⟨Nat.le_of_ble_eq_true rfl, Nat.le_of_ble_eq_true rfl⟩ rfl rfl rfl rfl (Nat.le_of_ble_eq_true rfl) dX6_near_18 ⟨Nat.le_of_ble_eq_true rfl, Nat.le_of_ble_eq_true rfl⟩) (fun r_6 u_4 H locs h_5 hP hD hS => ?_)
  have h_5 : r_6 = -2 := h_5
  have hP : va_P D gx_cl [((ad 1), .inr (0, [.ref (ad 10), .ref (ad 11), .ref (ad 12), .ref (ad 13), .ref (ad 14), .ref (ad 15), .ref (ad 16), .ref (ad 17), .ref (ad 18), .int 0, .int 0, .int 0, .int 0, .int 1, .int 0, .int 0, .int 0]))] H := hP
  have hD : va_D A [((ad 1), .inr (0, [.ref (ad 10), .ref (ad 11), .ref (ad 12), .ref (ad 13), .ref (ad 14), .ref (ad 15), .ref (ad 16), .ref (ad 17), .ref (ad 18), .int 0, .int 0, .int 0, .int 0, .int 1, .int 0, .int 0, .int 0]))] := hD
  have eh_5 := h_5
  subst eh_5
  exact gx_retI C (u := ()) gx_nil gx_noneD hS (rfl) dX6_near_21
set_option maxHeartbeats 4000000 in
set_option maxRecDepth 100000 in
theorem x_together (l : Launch) (D : va_G) (k : Nat → ClassId) (ad : Nat → Nat) (av : Int32) (bv : Int32) (cv : Int32) (sz : Nat) : Met l yX6_together (.code yX6_together cX6_together 5 (some .int) :: gx_T) ({ frames := 2, cells := 0, slots := 0, locals := 43 }) (gx_Pre D k [.ref (ad 0), .int av, .int bv, .int cv] ([((ad 0), .inr (4, [.ref (ad 1), .ref (ad 2), .ref (ad 3), .ref (ad 4), .ref (ad 5), .ref (ad 6), .ref (ad 7), .ref (ad 8), .ref (ad 9), .int 0])), ((ad 1), .inr (0, [.ref (ad 10), .ref (ad 11), .ref (ad 12), .ref (ad 13), .ref (ad 14), .ref (ad 15), .ref (ad 16), .ref (ad 17), .ref (ad 18), .int 0, .int 0, .int 0, .int 0, .int 1, .int 0, .int 0, .int 0])), ((ad 9), .inl (k 0, 5, .inl (fun _ => 0)))]) sz) (gx_Qi D (fun (r : Int32) (u : Unit) => r = -2) (fun (u : Unit) => ([] : va_W)) (va_A ([((ad 0), .inr (4, [.ref (ad 1), .ref (ad 2), .ref (ad 3), .ref (ad 4), .ref (ad 5), .ref (ad 6), .ref (ad 7), .ref (ad 8), .ref (ad 9), .int 0])), ((ad 1), .inr (0, [.ref (ad 10), .ref (ad 11), .ref (ad 12), .ref (ad 13), .ref (ad 14), .ref (ad 15), .ref (ad 16), .ref (ad 17), .ref (ad 18), .int 0, .int 0, .int 0, .int 0, .int 1, .int 0, .int 0, .int 0])), ((ad 9), .inl (k 0, 5, .inl (fun _ => 0)))]) sz)) 0 0 (va_A ([((ad 0), .inr (4, [.ref (ad 1), .ref (ad 2), .ref (ad 3), .ref (ad 4), .ref (ad 5), .ref (ad 6), .ref (ad 7), .ref (ad 8), .ref (ad 9), .int 0])), ((ad 1), .inr (0, [.ref (ad 10), .ref (ad 11), .ref (ad 12), .ref (ad 13), .ref (ad 14), .ref (ad 15), .ref (ad 16), .ref (ad 17), .ref (ad 18), .int 0, .int 0, .int 0, .int 0, .int 1, .int 0, .int 0, .int 0])), ((ad 9), .inl (k 0, 5, .inl (fun _ => 0)))]) sz) := by
  refine gx_metE (Qc := fun A => gx_Qi D (fun (r : Int32) (u : Unit) => r = -2) (fun (u : Unit) => ([] : va_W)) A) (by decide) (Nat.le_of_ble_eq_true rfl) ?_
  intro p e s m below meth c A ls C hA hP hD hK hS hl
  obtain ⟨hx, hb, hr, hml, hown, hT, hlk, hin⟩ := id C
  have hown : s.vm.findClass RX6 = some m.cls := hown
  have hl : lv_has ls 5 [(0, .ref (ad 0)), (1, .int av), (2, .int bv), (3, .int cv)] := hl
  refine lv_aload_n hx hb dX6_together_0 rfl (lv_at hl 0 rfl) ?_
  refine lv_iload_n hx hb dX6_together_1 rfl (lv_at hl 1 rfl) ?_
  refine gx_pi hP hS (gx_runV (na := 1) (As := [.int av]) (rest := []) (ci := 4) C hl.1 hK (gx_subP (wc := ([((ad 0), .inr (4, [.ref (ad 1), .ref (ad 2), .ref (ad 3), .ref (ad 4), .ref (ad 5), .ref (ad 6), .ref (ad 7), .ref (ad 8), .ref (ad 9), .int 0])), ((ad 1), .inr (0, [.ref (ad 10), .ref (ad 11), .ref (ad 12), .ref (ad 13), .ref (ad 14), .ref (ad 15), .ref (ad 16), .ref (ad 17), .ref (ad 18), .int 0, .int 0, .int 0, .int 0, .int 1, .int 0, .int 0, .int 0]))] : va_W)) hP [0, 1] rfl) ((hD.sub (ws' := ([((ad 0), .inr (4, [.ref (ad 1), .ref (ad 2), .ref (ad 3), .ref (ad 4), .ref (ad 5), .ref (ad 6), .ref (ad 7), .ref (ad 8), .ref (ad 9), .int 0])), ((ad 1), .inr (0, [.ref (ad 10), .ref (ad 11), .ref (ad 12), .ref (ad 13), .ref (ad 14), .ref (ad 15), .ref (ad 16), .ref (ad 17), .ref (ad 18), .int 0, .int 0, .int 0, .int 0, .int 1, .int 0, .int 0, .int 0]))] : va_W)) [0, 1] (by decide) rfl).weaken (fun _ _ _ _ => trivial)) (k_isOne l D k ad av _) gV_RX6_182 (by decide +kernel) rfl rfl ⟨Nat.le_of_ble_eq_true rfl, Nat.le_of_ble_eq_true rfl⟩ rfl rfl rfl rfl (Nat.le_of_ble_eq_true rfl) dX6_together_2 ⟨Nat.le_of_ble_eq_true rfl, Nat.le_of_ble_eq_true rfl⟩) (fun r_2 H locs c_1 hP hS => ?_)
  have c_1 : r_2 = 0 := c_1
  subst c_1
  refine lv_if_eq (tgt := 30) hx hb dX6_together_5 (by decide) (fun c_3 => ?_) (fun c_3 => absurd (by decide) c_3)
  refine lv_aload_n hx hb dX6_together_30 rfl (lv_at hl 0 rfl) ?_
  refine lv_bipush (v := (-2)) hx hb dX6_together_31 (by decide) ?_
  refine gx_ei (wc := ([((ad 0), .inr (4, [.ref (ad 1), .ref (ad 2), .ref (ad 3), .ref (ad 4), .ref (ad 5), .ref (ad 6), .ref (ad 7), .ref (ad 8), .ref (ad 9), .int 0])), ((ad 9), .inl (k 0, 5, .inl (fun _ => 0)))] : va_W)) (wr := [((ad 1), .inr (0, [.ref (ad 10), .ref (ad 11), .ref (ad 12), .ref (ad 13), .ref (ad 14), .ref (ad 15), .ref (ad 16), .ref (ad 17), .ref (ad 18), .int 0, .int 0, .int 0, .int 0, .int 1, .int 0, .int 0, .int 0]))]) (isC := [0, 2]) (isR := [1]) hP hD hS hA rfl rfl (by decide) (by decide) (gx_runV (na := 1) (As := [.int (-2)]) (rest := []) (ci := 4) C hl.1 hK (gx_subP (wc := ([((ad 0), .inr (4, [.ref (ad 1), .ref (ad 2), .ref (ad 3), .ref (ad 4), .ref (ad 5), .ref (ad 6), .ref (ad 7), .ref (ad 8), .ref (ad 9), .int 0])), ((ad 9), .inl (k 0, 5, .inl (fun _ => 0)))] : va_W)) hP [0, 2] rfl) ((hD.sub (ws' := ([((ad 0), .inr (4, [.ref (ad 1), .ref (ad 2), .ref (ad 3), .ref (ad 4), .ref (ad 5), .ref (ad 6), .ref (ad 7), .ref (ad 8), .ref (ad 9), .int 0])), ((ad 9), .inl (k 0, 5, .inl (fun _ => 0)))] : va_W)) [0, 2] (by decide) rfl).weaken (fun _ _ _ _ => trivial)) (k_refuse2 l D k ad _) gV_RX6_61 (by decide +kernel) rfl rfl ⟨Nat.le_of_ble_eq_true rfl, Nat.le_of_ble_eq_true rfl⟩ rfl rfl rfl rfl (Nat.le_of_ble_eq_true rfl) dX6_together_33 ⟨Nat.le_of_ble_eq_true rfl, Nat.le_of_ble_eq_true rfl⟩) (fun r_6 u_4 H locs h_5 hP hD hS => ?_)
  have h_5 : r_6 = -2 := h_5
  have hP : va_P D gx_cl [((ad 1), .inr (0, [.ref (ad 10), .ref (ad 11), .ref (ad 12), .ref (ad 13), .ref (ad 14), .ref (ad 15), .ref (ad 16), .ref (ad 17), .ref (ad 18), .int 0, .int 0, .int 0, .int 0, .int 1, .int 0, .int 0, .int 0]))] H := hP
  have hD : va_D A [((ad 1), .inr (0, [.ref (ad 10), .ref (ad 11), .ref (ad 12), .ref (ad 13), .ref (ad 14), .ref (ad 15), .ref (ad 16), .ref (ad 17), .ref (ad 18), .int 0, .int 0, .int 0, .int 0, .int 1, .int 0, .int 0, .int 0]))] := hD
  have eh_5 := h_5
  subst eh_5
  exact gx_retI C (u := ()) gx_nil gx_noneD hS (rfl) dX6_together_36
set_option maxHeartbeats 4000000 in
set_option maxRecDepth 100000 in
theorem x_frees (l : Launch) (D : va_G) (k : Nat → ClassId) (ad : Nat → Nat) (av : Int32) (sz : Nat) : Met l yX6_frees (.code yX6_frees cX6_frees 2 (some .int) :: gx_T) ({ frames := 2, cells := 0, slots := 0, locals := 43 }) (gx_Pre D k [.ref (ad 0), .int av] ([((ad 0), .inr (4, [.ref (ad 1), .ref (ad 2), .ref (ad 3), .ref (ad 4), .ref (ad 5), .ref (ad 6), .ref (ad 7), .ref (ad 8), .ref (ad 9), .int 0])), ((ad 1), .inr (0, [.ref (ad 10), .ref (ad 11), .ref (ad 12), .ref (ad 13), .ref (ad 14), .ref (ad 15), .ref (ad 16), .ref (ad 17), .ref (ad 18), .int 0, .int 0, .int 0, .int 0, .int 1, .int 0, .int 0, .int 0])), ((ad 9), .inl (k 0, 5, .inl (fun _ => 0)))]) sz) (gx_Qi D (fun (r : Int32) (u : Unit) => r = -2) (fun (u : Unit) => ([] : va_W)) (va_A ([((ad 0), .inr (4, [.ref (ad 1), .ref (ad 2), .ref (ad 3), .ref (ad 4), .ref (ad 5), .ref (ad 6), .ref (ad 7), .ref (ad 8), .ref (ad 9), .int 0])), ((ad 1), .inr (0, [.ref (ad 10), .ref (ad 11), .ref (ad 12), .ref (ad 13), .ref (ad 14), .ref (ad 15), .ref (ad 16), .ref (ad 17), .ref (ad 18), .int 0, .int 0, .int 0, .int 0, .int 1, .int 0, .int 0, .int 0])), ((ad 9), .inl (k 0, 5, .inl (fun _ => 0)))]) sz)) 0 0 (va_A ([((ad 0), .inr (4, [.ref (ad 1), .ref (ad 2), .ref (ad 3), .ref (ad 4), .ref (ad 5), .ref (ad 6), .ref (ad 7), .ref (ad 8), .ref (ad 9), .int 0])), ((ad 1), .inr (0, [.ref (ad 10), .ref (ad 11), .ref (ad 12), .ref (ad 13), .ref (ad 14), .ref (ad 15), .ref (ad 16), .ref (ad 17), .ref (ad 18), .int 0, .int 0, .int 0, .int 0, .int 1, .int 0, .int 0, .int 0])), ((ad 9), .inl (k 0, 5, .inl (fun _ => 0)))]) sz) := by
  refine gx_metE (Qc := fun A => gx_Qi D (fun (r : Int32) (u : Unit) => r = -2) (fun (u : Unit) => ([] : va_W)) A) (by decide) (Nat.le_of_ble_eq_true rfl) ?_
  intro p e s m below meth c A ls C hA hP hD hK hS hl
  obtain ⟨hx, hb, hr, hml, hown, hT, hlk, hin⟩ := id C
  have hown : s.vm.findClass RX6 = some m.cls := hown
  have hl : lv_has ls 2 [(0, .ref (ad 0)), (1, .int av)] := hl
  refine lv_aload_n hx hb dX6_frees_0 rfl (lv_at hl 0 rfl) ?_
  refine lv_iload_n hx hb dX6_frees_1 rfl (lv_at hl 1 rfl) ?_
  refine gx_pi hP hS (gx_runV (na := 1) (As := [.int av]) (rest := []) (ci := 4) C hl.1 hK (gx_subP (wc := ([((ad 0), .inr (4, [.ref (ad 1), .ref (ad 2), .ref (ad 3), .ref (ad 4), .ref (ad 5), .ref (ad 6), .ref (ad 7), .ref (ad 8), .ref (ad 9), .int 0])), ((ad 1), .inr (0, [.ref (ad 10), .ref (ad 11), .ref (ad 12), .ref (ad 13), .ref (ad 14), .ref (ad 15), .ref (ad 16), .ref (ad 17), .ref (ad 18), .int 0, .int 0, .int 0, .int 0, .int 1, .int 0, .int 0, .int 0]))] : va_W)) hP [0, 1] rfl) ((hD.sub (ws' := ([((ad 0), .inr (4, [.ref (ad 1), .ref (ad 2), .ref (ad 3), .ref (ad 4), .ref (ad 5), .ref (ad 6), .ref (ad 7), .ref (ad 8), .ref (ad 9), .int 0])), ((ad 1), .inr (0, [.ref (ad 10), .ref (ad 11), .ref (ad 12), .ref (ad 13), .ref (ad 14), .ref (ad 15), .ref (ad 16), .ref (ad 17), .ref (ad 18), .int 0, .int 0, .int 0, .int 0, .int 1, .int 0, .int 0, .int 0]))] : va_W)) [0, 1] (by decide) rfl).weaken (fun _ _ _ _ => trivial)) (k_isOne l D k ad av _) gV_RX6_182 (by decide +kernel) rfl rfl ⟨Nat.le_of_ble_eq_true rfl, Nat.le_of_ble_eq_true rfl⟩ rfl rfl rfl rfl (Nat.le_of_ble_eq_true rfl) dX6_frees_2 ⟨Nat.le_of_ble_eq_true rfl, Nat.le_of_ble_eq_true rfl⟩) (fun r_2 H locs c_1 hP hS => ?_)
  have c_1 : r_2 = 0 := c_1
  subst c_1
  refine lv_if_ne (tgt := 15) hx hb dX6_frees_5 (by decide) (fun c_3 => absurd (by decide) c_3) (fun c_3 => ?_)
  refine lv_aload_n hx hb dX6_frees_8 rfl (lv_at hl 0 rfl) ?_
  refine lv_bipush (v := (-2)) hx hb dX6_frees_9 (by decide) ?_
  refine gx_ei (wc := ([((ad 0), .inr (4, [.ref (ad 1), .ref (ad 2), .ref (ad 3), .ref (ad 4), .ref (ad 5), .ref (ad 6), .ref (ad 7), .ref (ad 8), .ref (ad 9), .int 0])), ((ad 9), .inl (k 0, 5, .inl (fun _ => 0)))] : va_W)) (wr := [((ad 1), .inr (0, [.ref (ad 10), .ref (ad 11), .ref (ad 12), .ref (ad 13), .ref (ad 14), .ref (ad 15), .ref (ad 16), .ref (ad 17), .ref (ad 18), .int 0, .int 0, .int 0, .int 0, .int 1, .int 0, .int 0, .int 0]))]) (isC := [0, 2]) (isR := [1]) hP hD hS hA rfl rfl (by decide) (by decide) (gx_runV (na := 1) (As := [.int (-2)]) (rest := []) (ci := 4) C hl.1 hK (gx_subP (wc := ([((ad 0), .inr (4, [.ref (ad 1), .ref (ad 2), .ref (ad 3), .ref (ad 4), .ref (ad 5), .ref (ad 6), .ref (ad 7), .ref (ad 8), .ref (ad 9), .int 0])), ((ad 9), .inl (k 0, 5, .inl (fun _ => 0)))] : va_W)) hP [0, 2] rfl) ((hD.sub (ws' := ([((ad 0), .inr (4, [.ref (ad 1), .ref (ad 2), .ref (ad 3), .ref (ad 4), .ref (ad 5), .ref (ad 6), .ref (ad 7), .ref (ad 8), .ref (ad 9), .int 0])), ((ad 9), .inl (k 0, 5, .inl (fun _ => 0)))] : va_W)) [0, 2] (by decide) rfl).weaken (fun _ _ _ _ => trivial)) (k_refuse2 l D k ad _) gV_RX6_61 (by decide +kernel) rfl rfl ⟨Nat.le_of_ble_eq_true rfl, Nat.le_of_ble_eq_true rfl⟩ rfl rfl rfl rfl (Nat.le_of_ble_eq_true rfl) dX6_frees_11 ⟨Nat.le_of_ble_eq_true rfl, Nat.le_of_ble_eq_true rfl⟩) (fun r_6 u_4 H locs h_5 hP hD hS => ?_)
  have h_5 : r_6 = -2 := h_5
  have hP : va_P D gx_cl [((ad 1), .inr (0, [.ref (ad 10), .ref (ad 11), .ref (ad 12), .ref (ad 13), .ref (ad 14), .ref (ad 15), .ref (ad 16), .ref (ad 17), .ref (ad 18), .int 0, .int 0, .int 0, .int 0, .int 1, .int 0, .int 0, .int 0]))] H := hP
  have hD : va_D A [((ad 1), .inr (0, [.ref (ad 10), .ref (ad 11), .ref (ad 12), .ref (ad 13), .ref (ad 14), .ref (ad 15), .ref (ad 16), .ref (ad 17), .ref (ad 18), .int 0, .int 0, .int 0, .int 0, .int 1, .int 0, .int 0, .int 0]))] := hD
  have eh_5 := h_5
  subst eh_5
  exact gx_retI C (u := ()) gx_nil gx_noneD hS (rfl) dX6_frees_14
set_option maxHeartbeats 4000000 in
set_option maxRecDepth 100000 in
theorem x_send (l : Launch) (D : va_G) (k : Nat → ClassId) (ad : Nat → Nat) (av : Int32) (bv : Int32) (sz : Nat) : Met l yX6_send (.code yX6_send cX6_send 4 (some .int) :: gx_T) ({ frames := 2, cells := 0, slots := 0, locals := 43 }) (gx_Pre D k [.ref (ad 0), .int av, .int bv] ([((ad 0), .inr (4, [.ref (ad 1), .ref (ad 2), .ref (ad 3), .ref (ad 4), .ref (ad 5), .ref (ad 6), .ref (ad 7), .ref (ad 8), .ref (ad 9), .int 0])), ((ad 1), .inr (0, [.ref (ad 10), .ref (ad 11), .ref (ad 12), .ref (ad 13), .ref (ad 14), .ref (ad 15), .ref (ad 16), .ref (ad 17), .ref (ad 18), .int 0, .int 0, .int 0, .int 0, .int 1, .int 0, .int 0, .int 0])), ((ad 9), .inl (k 0, 5, .inl (fun _ => 0)))]) sz) (gx_Qi D (fun (r : Int32) (u : Unit) => r = -2) (fun (u : Unit) => ([] : va_W)) (va_A ([((ad 0), .inr (4, [.ref (ad 1), .ref (ad 2), .ref (ad 3), .ref (ad 4), .ref (ad 5), .ref (ad 6), .ref (ad 7), .ref (ad 8), .ref (ad 9), .int 0])), ((ad 1), .inr (0, [.ref (ad 10), .ref (ad 11), .ref (ad 12), .ref (ad 13), .ref (ad 14), .ref (ad 15), .ref (ad 16), .ref (ad 17), .ref (ad 18), .int 0, .int 0, .int 0, .int 0, .int 1, .int 0, .int 0, .int 0])), ((ad 9), .inl (k 0, 5, .inl (fun _ => 0)))]) sz)) 0 0 (va_A ([((ad 0), .inr (4, [.ref (ad 1), .ref (ad 2), .ref (ad 3), .ref (ad 4), .ref (ad 5), .ref (ad 6), .ref (ad 7), .ref (ad 8), .ref (ad 9), .int 0])), ((ad 1), .inr (0, [.ref (ad 10), .ref (ad 11), .ref (ad 12), .ref (ad 13), .ref (ad 14), .ref (ad 15), .ref (ad 16), .ref (ad 17), .ref (ad 18), .int 0, .int 0, .int 0, .int 0, .int 1, .int 0, .int 0, .int 0])), ((ad 9), .inl (k 0, 5, .inl (fun _ => 0)))]) sz) := by
  refine gx_metE (Qc := fun A => gx_Qi D (fun (r : Int32) (u : Unit) => r = -2) (fun (u : Unit) => ([] : va_W)) A) (by decide) (Nat.le_of_ble_eq_true rfl) ?_
  intro p e s m below meth c A ls C hA hP hD hK hS hl
  obtain ⟨hx, hb, hr, hml, hown, hT, hlk, hin⟩ := id C
  have hown : s.vm.findClass RX6 = some m.cls := hown
  have hl : lv_has ls 4 [(0, .ref (ad 0)), (1, .int av), (2, .int bv)] := hl
  refine lv_aload_n hx hb dX6_send_0 rfl (lv_at hl 0 rfl) ?_
  refine lv_iload_n hx hb dX6_send_1 rfl (lv_at hl 1 rfl) ?_
  refine gx_pi hP hS (gx_runV (na := 1) (As := [.int av]) (rest := []) (ci := 4) C hl.1 hK (gx_subP (wc := ([((ad 0), .inr (4, [.ref (ad 1), .ref (ad 2), .ref (ad 3), .ref (ad 4), .ref (ad 5), .ref (ad 6), .ref (ad 7), .ref (ad 8), .ref (ad 9), .int 0])), ((ad 1), .inr (0, [.ref (ad 10), .ref (ad 11), .ref (ad 12), .ref (ad 13), .ref (ad 14), .ref (ad 15), .ref (ad 16), .ref (ad 17), .ref (ad 18), .int 0, .int 0, .int 0, .int 0, .int 1, .int 0, .int 0, .int 0]))] : va_W)) hP [0, 1] rfl) ((hD.sub (ws' := ([((ad 0), .inr (4, [.ref (ad 1), .ref (ad 2), .ref (ad 3), .ref (ad 4), .ref (ad 5), .ref (ad 6), .ref (ad 7), .ref (ad 8), .ref (ad 9), .int 0])), ((ad 1), .inr (0, [.ref (ad 10), .ref (ad 11), .ref (ad 12), .ref (ad 13), .ref (ad 14), .ref (ad 15), .ref (ad 16), .ref (ad 17), .ref (ad 18), .int 0, .int 0, .int 0, .int 0, .int 1, .int 0, .int 0, .int 0]))] : va_W)) [0, 1] (by decide) rfl).weaken (fun _ _ _ _ => trivial)) (k_isOne l D k ad av _) gV_RX6_182 (by decide +kernel) rfl rfl ⟨Nat.le_of_ble_eq_true rfl, Nat.le_of_ble_eq_true rfl⟩ rfl rfl rfl rfl (Nat.le_of_ble_eq_true rfl) dX6_send_2 ⟨Nat.le_of_ble_eq_true rfl, Nat.le_of_ble_eq_true rfl⟩) (fun r_2 H locs c_1 hP hS => ?_)
  have c_1 : r_2 = 0 := c_1
  subst c_1
  refine lv_if_eq (tgt := 16) hx hb dX6_send_5 (by decide) (fun c_3 => ?_) (fun c_3 => absurd (by decide) c_3)
  refine lv_aload_n hx hb dX6_send_16 rfl (lv_at hl 0 rfl) ?_
  refine lv_bipush (v := (-2)) hx hb dX6_send_17 (by decide) ?_
  refine gx_ei (wc := ([((ad 0), .inr (4, [.ref (ad 1), .ref (ad 2), .ref (ad 3), .ref (ad 4), .ref (ad 5), .ref (ad 6), .ref (ad 7), .ref (ad 8), .ref (ad 9), .int 0])), ((ad 9), .inl (k 0, 5, .inl (fun _ => 0)))] : va_W)) (wr := [((ad 1), .inr (0, [.ref (ad 10), .ref (ad 11), .ref (ad 12), .ref (ad 13), .ref (ad 14), .ref (ad 15), .ref (ad 16), .ref (ad 17), .ref (ad 18), .int 0, .int 0, .int 0, .int 0, .int 1, .int 0, .int 0, .int 0]))]) (isC := [0, 2]) (isR := [1]) hP hD hS hA rfl rfl (by decide) (by decide) (gx_runV (na := 1) (As := [.int (-2)]) (rest := []) (ci := 4) C hl.1 hK (gx_subP (wc := ([((ad 0), .inr (4, [.ref (ad 1), .ref (ad 2), .ref (ad 3), .ref (ad 4), .ref (ad 5), .ref (ad 6), .ref (ad 7), .ref (ad 8), .ref (ad 9), .int 0])), ((ad 9), .inl (k 0, 5, .inl (fun _ => 0)))] : va_W)) hP [0, 2] rfl) ((hD.sub (ws' := ([((ad 0), .inr (4, [.ref (ad 1), .ref (ad 2), .ref (ad 3), .ref (ad 4), .ref (ad 5), .ref (ad 6), .ref (ad 7), .ref (ad 8), .ref (ad 9), .int 0])), ((ad 9), .inl (k 0, 5, .inl (fun _ => 0)))] : va_W)) [0, 2] (by decide) rfl).weaken (fun _ _ _ _ => trivial)) (k_refuse2 l D k ad _) gV_RX6_61 (by decide +kernel) rfl rfl ⟨Nat.le_of_ble_eq_true rfl, Nat.le_of_ble_eq_true rfl⟩ rfl rfl rfl rfl (Nat.le_of_ble_eq_true rfl) dX6_send_19 ⟨Nat.le_of_ble_eq_true rfl, Nat.le_of_ble_eq_true rfl⟩) (fun r_6 u_4 H locs h_5 hP hD hS => ?_)
  have h_5 : r_6 = -2 := h_5
  have hP : va_P D gx_cl [((ad 1), .inr (0, [.ref (ad 10), .ref (ad 11), .ref (ad 12), .ref (ad 13), .ref (ad 14), .ref (ad 15), .ref (ad 16), .ref (ad 17), .ref (ad 18), .int 0, .int 0, .int 0, .int 0, .int 1, .int 0, .int 0, .int 0]))] H := hP
  have hD : va_D A [((ad 1), .inr (0, [.ref (ad 10), .ref (ad 11), .ref (ad 12), .ref (ad 13), .ref (ad 14), .ref (ad 15), .ref (ad 16), .ref (ad 17), .ref (ad 18), .int 0, .int 0, .int 0, .int 0, .int 1, .int 0, .int 0, .int 0]))] := hD
  have eh_5 := h_5
  subst eh_5
  exact gx_retI C (u := ()) gx_nil gx_noneD hS (rfl) dX6_send_22
set_option maxHeartbeats 4000000 in
set_option maxRecDepth 100000 in
theorem x_wander (l : Launch) (D : va_G) (k : Nat → ClassId) (ad : Nat → Nat) (av : Int32) (bv : Int32) (sz : Nat) : Met l yX6_wander (.code yX6_wander cX6_wander 5 (some .int) :: gx_T) ({ frames := 2, cells := 0, slots := 0, locals := 43 }) (gx_Pre D k [.ref (ad 0), .int av, .int bv] ([((ad 0), .inr (4, [.ref (ad 1), .ref (ad 2), .ref (ad 3), .ref (ad 4), .ref (ad 5), .ref (ad 6), .ref (ad 7), .ref (ad 8), .ref (ad 9), .int 0])), ((ad 1), .inr (0, [.ref (ad 10), .ref (ad 11), .ref (ad 12), .ref (ad 13), .ref (ad 14), .ref (ad 15), .ref (ad 16), .ref (ad 17), .ref (ad 18), .int 0, .int 0, .int 0, .int 0, .int 1, .int 0, .int 0, .int 0])), ((ad 9), .inl (k 0, 5, .inl (fun _ => 0)))]) sz) (gx_Qi D (fun (r : Int32) (u : Unit) => r = -2) (fun (u : Unit) => ([] : va_W)) (va_A ([((ad 0), .inr (4, [.ref (ad 1), .ref (ad 2), .ref (ad 3), .ref (ad 4), .ref (ad 5), .ref (ad 6), .ref (ad 7), .ref (ad 8), .ref (ad 9), .int 0])), ((ad 1), .inr (0, [.ref (ad 10), .ref (ad 11), .ref (ad 12), .ref (ad 13), .ref (ad 14), .ref (ad 15), .ref (ad 16), .ref (ad 17), .ref (ad 18), .int 0, .int 0, .int 0, .int 0, .int 1, .int 0, .int 0, .int 0])), ((ad 9), .inl (k 0, 5, .inl (fun _ => 0)))]) sz)) 0 0 (va_A ([((ad 0), .inr (4, [.ref (ad 1), .ref (ad 2), .ref (ad 3), .ref (ad 4), .ref (ad 5), .ref (ad 6), .ref (ad 7), .ref (ad 8), .ref (ad 9), .int 0])), ((ad 1), .inr (0, [.ref (ad 10), .ref (ad 11), .ref (ad 12), .ref (ad 13), .ref (ad 14), .ref (ad 15), .ref (ad 16), .ref (ad 17), .ref (ad 18), .int 0, .int 0, .int 0, .int 0, .int 1, .int 0, .int 0, .int 0])), ((ad 9), .inl (k 0, 5, .inl (fun _ => 0)))]) sz) := by
  refine gx_metE (Qc := fun A => gx_Qi D (fun (r : Int32) (u : Unit) => r = -2) (fun (u : Unit) => ([] : va_W)) A) (by decide) (Nat.le_of_ble_eq_true rfl) ?_
  intro p e s m below meth c A ls C hA hP hD hK hS hl
  obtain ⟨hx, hb, hr, hml, hown, hT, hlk, hin⟩ := id C
  have hown : s.vm.findClass RX6 = some m.cls := hown
  have hl : lv_has ls 5 [(0, .ref (ad 0)), (1, .int av), (2, .int bv)] := hl
  refine lv_aload_n hx hb dX6_wander_0 rfl (lv_at hl 0 rfl) ?_
  refine lv_iload_n hx hb dX6_wander_1 rfl (lv_at hl 1 rfl) ?_
  refine gx_pi hP hS (gx_runV (na := 1) (As := [.int av]) (rest := []) (ci := 4) C hl.1 hK (gx_subP (wc := ([((ad 0), .inr (4, [.ref (ad 1), .ref (ad 2), .ref (ad 3), .ref (ad 4), .ref (ad 5), .ref (ad 6), .ref (ad 7), .ref (ad 8), .ref (ad 9), .int 0])), ((ad 1), .inr (0, [.ref (ad 10), .ref (ad 11), .ref (ad 12), .ref (ad 13), .ref (ad 14), .ref (ad 15), .ref (ad 16), .ref (ad 17), .ref (ad 18), .int 0, .int 0, .int 0, .int 0, .int 1, .int 0, .int 0, .int 0]))] : va_W)) hP [0, 1] rfl) ((hD.sub (ws' := ([((ad 0), .inr (4, [.ref (ad 1), .ref (ad 2), .ref (ad 3), .ref (ad 4), .ref (ad 5), .ref (ad 6), .ref (ad 7), .ref (ad 8), .ref (ad 9), .int 0])), ((ad 1), .inr (0, [.ref (ad 10), .ref (ad 11), .ref (ad 12), .ref (ad 13), .ref (ad 14), .ref (ad 15), .ref (ad 16), .ref (ad 17), .ref (ad 18), .int 0, .int 0, .int 0, .int 0, .int 1, .int 0, .int 0, .int 0]))] : va_W)) [0, 1] (by decide) rfl).weaken (fun _ _ _ _ => trivial)) (k_isOne l D k ad av _) gV_RX6_182 (by decide +kernel) rfl rfl ⟨Nat.le_of_ble_eq_true rfl, Nat.le_of_ble_eq_true rfl⟩ rfl rfl rfl rfl (Nat.le_of_ble_eq_true rfl) dX6_wander_2 ⟨Nat.le_of_ble_eq_true rfl, Nat.le_of_ble_eq_true rfl⟩) (fun r_2 H locs c_1 hP hS => ?_)
  have c_1 : r_2 = 0 := c_1
  subst c_1
  refine lv_if_eq (tgt := 18) hx hb dX6_wander_5 (by decide) (fun c_3 => ?_) (fun c_3 => absurd (by decide) c_3)
  refine lv_aload_n hx hb dX6_wander_18 rfl (lv_at hl 0 rfl) ?_
  refine lv_bipush (v := (-2)) hx hb dX6_wander_19 (by decide) ?_
  refine gx_ei (wc := ([((ad 0), .inr (4, [.ref (ad 1), .ref (ad 2), .ref (ad 3), .ref (ad 4), .ref (ad 5), .ref (ad 6), .ref (ad 7), .ref (ad 8), .ref (ad 9), .int 0])), ((ad 9), .inl (k 0, 5, .inl (fun _ => 0)))] : va_W)) (wr := [((ad 1), .inr (0, [.ref (ad 10), .ref (ad 11), .ref (ad 12), .ref (ad 13), .ref (ad 14), .ref (ad 15), .ref (ad 16), .ref (ad 17), .ref (ad 18), .int 0, .int 0, .int 0, .int 0, .int 1, .int 0, .int 0, .int 0]))]) (isC := [0, 2]) (isR := [1]) hP hD hS hA rfl rfl (by decide) (by decide) (gx_runV (na := 1) (As := [.int (-2)]) (rest := []) (ci := 4) C hl.1 hK (gx_subP (wc := ([((ad 0), .inr (4, [.ref (ad 1), .ref (ad 2), .ref (ad 3), .ref (ad 4), .ref (ad 5), .ref (ad 6), .ref (ad 7), .ref (ad 8), .ref (ad 9), .int 0])), ((ad 9), .inl (k 0, 5, .inl (fun _ => 0)))] : va_W)) hP [0, 2] rfl) ((hD.sub (ws' := ([((ad 0), .inr (4, [.ref (ad 1), .ref (ad 2), .ref (ad 3), .ref (ad 4), .ref (ad 5), .ref (ad 6), .ref (ad 7), .ref (ad 8), .ref (ad 9), .int 0])), ((ad 9), .inl (k 0, 5, .inl (fun _ => 0)))] : va_W)) [0, 2] (by decide) rfl).weaken (fun _ _ _ _ => trivial)) (k_refuse2 l D k ad _) gV_RX6_61 (by decide +kernel) rfl rfl ⟨Nat.le_of_ble_eq_true rfl, Nat.le_of_ble_eq_true rfl⟩ rfl rfl rfl rfl (Nat.le_of_ble_eq_true rfl) dX6_wander_21 ⟨Nat.le_of_ble_eq_true rfl, Nat.le_of_ble_eq_true rfl⟩) (fun r_6 u_4 H locs h_5 hP hD hS => ?_)
  have h_5 : r_6 = -2 := h_5
  have hP : va_P D gx_cl [((ad 1), .inr (0, [.ref (ad 10), .ref (ad 11), .ref (ad 12), .ref (ad 13), .ref (ad 14), .ref (ad 15), .ref (ad 16), .ref (ad 17), .ref (ad 18), .int 0, .int 0, .int 0, .int 0, .int 1, .int 0, .int 0, .int 0]))] H := hP
  have hD : va_D A [((ad 1), .inr (0, [.ref (ad 10), .ref (ad 11), .ref (ad 12), .ref (ad 13), .ref (ad 14), .ref (ad 15), .ref (ad 16), .ref (ad 17), .ref (ad 18), .int 0, .int 0, .int 0, .int 0, .int 1, .int 0, .int 0, .int 0]))] := hD
  have eh_5 := h_5
  subst eh_5
  exact gx_retI C (u := ()) gx_nil gx_noneD hS (rfl) dX6_wander_24
set_option maxHeartbeats 4000000 in
set_option maxRecDepth 100000 in
theorem x_year (l : Launch) (D : va_G) (k : Nat → ClassId) (ad : Nat → Nat) (sz : Nat) : Met l yX6_year (.code yX6_year cX6_year 1 (some .int) :: gx_T) ({ frames := 0, cells := 0, slots := 0, locals := 0 }) (gx_Pre D k [.ref (ad 0)] ([((ad 0), .inr (4, [.ref (ad 1), .ref (ad 2), .ref (ad 3), .ref (ad 4), .ref (ad 5), .ref (ad 6), .ref (ad 7), .ref (ad 8), .ref (ad 9), .int 0])), ((ad 1), .inr (0, [.ref (ad 10), .ref (ad 11), .ref (ad 12), .ref (ad 13), .ref (ad 14), .ref (ad 15), .ref (ad 16), .ref (ad 17), .ref (ad 18), .int 0, .int 0, .int 0, .int 0, .int 1, .int 0, .int 0, .int 0]))]) sz) (gx_Qi D (fun (r : Int32) (u : Unit) => r = 1) (fun (u : Unit) => ([] : va_W)) (va_A ([((ad 0), .inr (4, [.ref (ad 1), .ref (ad 2), .ref (ad 3), .ref (ad 4), .ref (ad 5), .ref (ad 6), .ref (ad 7), .ref (ad 8), .ref (ad 9), .int 0])), ((ad 1), .inr (0, [.ref (ad 10), .ref (ad 11), .ref (ad 12), .ref (ad 13), .ref (ad 14), .ref (ad 15), .ref (ad 16), .ref (ad 17), .ref (ad 18), .int 0, .int 0, .int 0, .int 0, .int 1, .int 0, .int 0, .int 0]))]) sz)) 0 0 (va_A ([((ad 0), .inr (4, [.ref (ad 1), .ref (ad 2), .ref (ad 3), .ref (ad 4), .ref (ad 5), .ref (ad 6), .ref (ad 7), .ref (ad 8), .ref (ad 9), .int 0])), ((ad 1), .inr (0, [.ref (ad 10), .ref (ad 11), .ref (ad 12), .ref (ad 13), .ref (ad 14), .ref (ad 15), .ref (ad 16), .ref (ad 17), .ref (ad 18), .int 0, .int 0, .int 0, .int 0, .int 1, .int 0, .int 0, .int 0]))]) sz) := by
  refine gx_metE (Qc := fun A => gx_Qi D (fun (r : Int32) (u : Unit) => r = 1) (fun (u : Unit) => ([] : va_W)) A) (by decide) (Nat.le_of_ble_eq_true rfl) ?_
  intro p e s m below meth c A ls C hA hP hD hK hS hl
  obtain ⟨hx, hb, hr, hml, hown, hT, hlk, hin⟩ := id C
  have hown : s.vm.findClass RX6 = some m.cls := hown
  have hl : lv_has ls 1 [(0, .ref (ad 0))] := hl
  refine lv_aload_n hx hb dX6_year_0 rfl (lv_at hl 0 rfl) ?_
  refine va_get (D := D) (ci := 4) (v := .ref (ad 1)) (C := RX6) (T := TX6) (N := 10) hx hb hT iw_TX6 hown hK.1 hP 0 rfl rfl 0 (by decide) (hT _ wd_271) (fun _ h9 => h9) rfl dX6_year_1 ?_
  refine lv_dup hx hb dX6_year_4 rfl ?_
  refine va_get (D := D) (ci := 0) (v := .int 0) (C := RX1) (T := TX1) (N := 17) hx hb hT iw_TX1 hown hK.1 hP 1 rfl rfl 11 (by decide) (hT _ wd_140) (fun _ h9 => h9) rfl dX6_year_5 ?_
  refine lv_iconst (v := 1) hx hb dX6_year_8 (by decide) ?_
  refine lv_iadd hx hb dX6_year_9 ?_
  refine gx_cst (v := 1) (by decide) ?_
  refine va_put (D := D) (ci := 0) (v := .int 1) (ty := .int) (C := RX1) (T := TX1) (N := 17) hx hb hT iw_TX1 tyX1 tyX1_ok nmX1 hown hK.1 hP hD hS 1 rfl rfl 11 (by decide) (hT _ wd_140) (fun _ h9 => h9) rfl (by decide +kernel) rfl rfl (Nat.le_of_ble_eq_true rfl) dX6_year_10 (fun H locs hP hD hS => ?_)
  have hP : va_P D gx_cl [((ad 0), .inr (4, [.ref (ad 1), .ref (ad 2), .ref (ad 3), .ref (ad 4), .ref (ad 5), .ref (ad 6), .ref (ad 7), .ref (ad 8), .ref (ad 9), .int 0])), ((ad 1), .inr (0, [.ref (ad 10), .ref (ad 11), .ref (ad 12), .ref (ad 13), .ref (ad 14), .ref (ad 15), .ref (ad 16), .ref (ad 17), .ref (ad 18), .int 0, .int 0, .int 1, .int 0, .int 1, .int 0, .int 0, .int 0]))] H := hP
  have hD : va_D A [((ad 0), .inr (4, [.ref (ad 1), .ref (ad 2), .ref (ad 3), .ref (ad 4), .ref (ad 5), .ref (ad 6), .ref (ad 7), .ref (ad 8), .ref (ad 9), .int 0])), ((ad 1), .inr (0, [.ref (ad 10), .ref (ad 11), .ref (ad 12), .ref (ad 13), .ref (ad 14), .ref (ad 15), .ref (ad 16), .ref (ad 17), .ref (ad 18), .int 0, .int 0, .int 1, .int 0, .int 1, .int 0, .int 0, .int 0]))] := hD
  refine lv_aload_n hx hb dX6_year_13 rfl (lv_at hl 0 rfl) ?_
  refine va_get (D := D) (ci := 4) (v := .ref (ad 1)) (C := RX6) (T := TX6) (N := 10) hx hb hT iw_TX6 hown hK.1 hP 0 rfl rfl 0 (by decide) (hT _ wd_271) (fun _ h9 => h9) rfl dX6_year_14 ?_
  refine va_get (D := D) (ci := 0) (v := .int 1) (C := RX1) (T := TX1) (N := 17) hx hb hT iw_TX1 hown hK.1 hP 1 rfl rfl 11 (by decide) (hT _ wd_140) (fun _ h9 => h9) rfl dX6_year_17 ?_
  exact gx_retI C (u := ()) gx_nil gx_noneD hS (rfl) dX6_year_20
set_option maxHeartbeats 4000000 in
set_option maxRecDepth 100000 in
theorem x_fast (l : Launch) (D : va_G) (k : Nat → ClassId) (ad : Nat → Nat) (zv : Int32) (sz : Nat) : Met l yX6_fast (.code yX6_fast cX6_fast 5 (some .int) :: gx_T) ({ frames := 0, cells := 0, slots := 0, locals := 0 }) (gx_Pre D k [.ref (ad 0), .int zv] ([((ad 0), .inr (4, [.ref (ad 1), .ref (ad 2), .ref (ad 3), .ref (ad 4), .ref (ad 5), .ref (ad 6), .ref (ad 7), .ref (ad 8), .ref (ad 9), .int 0])), ((ad 1), .inr (0, [.ref (ad 10), .ref (ad 11), .ref (ad 12), .ref (ad 13), .ref (ad 14), .ref (ad 15), .ref (ad 16), .ref (ad 17), .ref (ad 18), .int 0, .int 0, .int 0, .int 0, .int 1, .int 0, .int 0, .int 0]))]) sz) (gx_Pi (fun r => r = 0)) 0 0 gx_No := by
  refine gx_metP (by decide) (Nat.le_of_ble_eq_true rfl) ?_
  intro p e s m below meth c ls C hP hD hK hS hl
  obtain ⟨hx, hb, hr, hml, hown, hT, hlk, hin⟩ := id C
  have hown : s.vm.findClass RX6 = some m.cls := hown
  have hl : lv_has ls 5 [(0, .ref (ad 0)), (1, .int zv)] := hl
  refine lv_iconst (v := 0) hx hb dX6_fast_0 (by decide) ?_
  refine lv_istore_n (lv' := [(2, .int 0), (0, .ref (ad 0)), (1, .int zv)]) hx hb dX6_fast_1 rfl hl (by decide) rfl (fun ls hl => ?_)
  refine lv_iconst (v := 0) hx hb dX6_fast_2 (by decide) ?_
  refine lv_istore_n (lv' := [(3, .int 0), (2, .int 0), (0, .ref (ad 0)), (1, .int zv)]) hx hb dX6_fast_3 rfl hl (by decide) rfl (fun ls hl => ?_)
  refine lv_iload_n hx hb dX6_fast_4 rfl (lv_at hl 0 rfl) ?_
  refine lv_aload_n hx hb dX6_fast_5 rfl (lv_at hl 2 rfl) ?_
  refine va_get (D := D) (ci := 4) (v := .ref (ad 1)) (C := RX6) (T := TX6) (N := 10) hx hb hT iw_TX6 hown hK.1 hP 0 rfl rfl 0 (by decide) (hT _ wd_271) (fun _ h9 => h9) rfl dX6_fast_6 ?_
  refine va_get (D := D) (ci := 0) (v := .int 0) (C := RX1) (T := TX1) (N := 17) hx hb hT iw_TX1 hown hK.1 hP 1 rfl rfl 10 (by decide) (hT _ wd_138) (fun _ h9 => h9) rfl dX6_fast_9 ?_
  refine lv_icmp_ge (tgt := 73) hx hb dX6_fast_12 (by decide) (fun c_1 => ?_) (fun c_1 => absurd (by decide) c_1)
  refine lv_iload_n hx hb dX6_fast_73 rfl (lv_at hl 1 rfl) ?_
  exact gx_retP C hS (rfl) dX6_fast_74
set_option maxHeartbeats 4000000 in
set_option maxRecDepth 100000 in
theorem x_seed (l : Launch) (D : va_G) (k : Nat → ClassId) (ad : Nat → Nat) (vv : Int32) (sz : Nat) : Met l yX6_seed (.code yX6_seed cX6_seed 3 (some .int) :: gx_T) ({ frames := 0, cells := 0, slots := 0, locals := 0 }) (gx_Pre D k [.ref (ad 0), .int vv] ([((ad 0), .inr (4, [.ref (ad 1), .ref (ad 2), .ref (ad 3), .ref (ad 4), .ref (ad 5), .ref (ad 6), .ref (ad 7), .ref (ad 8), .ref (ad 9), .int 0])), ((ad 1), .inr (0, [.ref (ad 10), .ref (ad 11), .ref (ad 12), .ref (ad 13), .ref (ad 14), .ref (ad 15), .ref (ad 16), .ref (ad 17), .ref (ad 18), .int 0, .int 0, .int 0, .int 0, .int 1, .int 0, .int 0, .int 0]))]) sz) (gx_Qi D (fun (r : Int32) (u : Unit) => r = 1) (fun (u : Unit) => ([] : va_W)) (va_A ([((ad 0), .inr (4, [.ref (ad 1), .ref (ad 2), .ref (ad 3), .ref (ad 4), .ref (ad 5), .ref (ad 6), .ref (ad 7), .ref (ad 8), .ref (ad 9), .int 0])), ((ad 1), .inr (0, [.ref (ad 10), .ref (ad 11), .ref (ad 12), .ref (ad 13), .ref (ad 14), .ref (ad 15), .ref (ad 16), .ref (ad 17), .ref (ad 18), .int 0, .int 0, .int 0, .int 0, .int 1, .int 0, .int 0, .int 0]))]) sz)) 0 0 (va_A ([((ad 0), .inr (4, [.ref (ad 1), .ref (ad 2), .ref (ad 3), .ref (ad 4), .ref (ad 5), .ref (ad 6), .ref (ad 7), .ref (ad 8), .ref (ad 9), .int 0])), ((ad 1), .inr (0, [.ref (ad 10), .ref (ad 11), .ref (ad 12), .ref (ad 13), .ref (ad 14), .ref (ad 15), .ref (ad 16), .ref (ad 17), .ref (ad 18), .int 0, .int 0, .int 0, .int 0, .int 1, .int 0, .int 0, .int 0]))]) sz) := by
  refine gx_metE (Qc := fun A => gx_Qi D (fun (r : Int32) (u : Unit) => r = 1) (fun (u : Unit) => ([] : va_W)) A) (by decide) (Nat.le_of_ble_eq_true rfl) ?_
  intro p e s m below meth c A ls C hA hP hD hK hS hl
  obtain ⟨hx, hb, hr, hml, hown, hT, hlk, hin⟩ := id C
  have hown : s.vm.findClass RX6 = some m.cls := hown
  have hl : lv_has ls 3 [(0, .ref (ad 0)), (1, .int vv)] := hl
  refine lv_aload_n hx hb dX6_seed_0 rfl (lv_at hl 0 rfl) ?_
  refine va_get (D := D) (ci := 4) (v := .ref (ad 1)) (C := RX6) (T := TX6) (N := 10) hx hb hT iw_TX6 hown hK.1 hP 0 rfl rfl 0 (by decide) (hT _ wd_271) (fun _ h9 => h9) rfl dX6_seed_1 ?_
  refine va_get (D := D) (ci := 0) (v := .int 1) (C := RX1) (T := TX1) (N := 17) hx hb hT iw_TX1 hown hK.1 hP 1 rfl rfl 13 (by decide) (hT _ wd_145) (fun _ h9 => h9) rfl dX6_seed_4 ?_
  refine lv_istore_n (lv' := [(2, .int 1), (0, .ref (ad 0)), (1, .int vv)]) hx hb dX6_seed_7 rfl hl (by decide) rfl (fun ls hl => ?_)
  refine lv_aload_n hx hb dX6_seed_8 rfl (lv_at hl 1 rfl) ?_
  refine va_get (D := D) (ci := 4) (v := .ref (ad 1)) (C := RX6) (T := TX6) (N := 10) hx hb hT iw_TX6 hown hK.1 hP 0 rfl rfl 0 (by decide) (hT _ wd_271) (fun _ h9 => h9) rfl dX6_seed_9 ?_
  refine lv_iload_n hx hb dX6_seed_12 rfl (lv_at hl 2 rfl) ?_
  refine va_put (D := D) (ci := 0) (v := .int vv) (ty := .int) (C := RX1) (T := TX1) (N := 17) hx hb hT iw_TX1 tyX1 tyX1_ok nmX1 hown hK.1 hP hD hS 1 rfl rfl 13 (by decide) (hT _ wd_145) (fun _ h9 => h9) rfl (by decide +kernel) rfl rfl (Nat.le_of_ble_eq_true rfl) dX6_seed_13 (fun H locs hP hD hS => ?_)
  have hP : va_P D gx_cl [((ad 0), .inr (4, [.ref (ad 1), .ref (ad 2), .ref (ad 3), .ref (ad 4), .ref (ad 5), .ref (ad 6), .ref (ad 7), .ref (ad 8), .ref (ad 9), .int 0])), ((ad 1), .inr (0, [.ref (ad 10), .ref (ad 11), .ref (ad 12), .ref (ad 13), .ref (ad 14), .ref (ad 15), .ref (ad 16), .ref (ad 17), .ref (ad 18), .int 0, .int 0, .int 0, .int 0, .int vv, .int 0, .int 0, .int 0]))] H := hP
  have hD : va_D A [((ad 0), .inr (4, [.ref (ad 1), .ref (ad 2), .ref (ad 3), .ref (ad 4), .ref (ad 5), .ref (ad 6), .ref (ad 7), .ref (ad 8), .ref (ad 9), .int 0])), ((ad 1), .inr (0, [.ref (ad 10), .ref (ad 11), .ref (ad 12), .ref (ad 13), .ref (ad 14), .ref (ad 15), .ref (ad 16), .ref (ad 17), .ref (ad 18), .int 0, .int 0, .int 0, .int 0, .int vv, .int 0, .int 0, .int 0]))] := hD
  refine lv_iload_n hx hb dX6_seed_16 rfl (lv_at hl 0 rfl) ?_
  exact gx_retI C (u := ()) gx_nil gx_noneD hS (rfl) dX6_seed_17
set_option maxHeartbeats 4000000 in
set_option maxRecDepth 100000 in
theorem x_image (l : Launch) (D : va_G) (k : Nat → ClassId) (ad : Nat → Nat) (wn : Nat → Int32) (wk : Nat → Int32) (sz : Nat) : Met l yX6_image (.code yX6_image cX6_image 1 (some .int) :: gx_T) ({ frames := 2, cells := 0, slots := 0, locals := 81 }) (gx_Pre D k [.ref (ad 0)] ([((ad 0), .inr (4, [.ref (ad 1), .ref (ad 2), .ref (ad 3), .ref (ad 4), .ref (ad 5), .ref (ad 6), .ref (ad 7), .ref (ad 8), .ref (ad 9), .int 0])), ((ad 1), .inr (0, [.ref (ad 10), .ref (ad 11), .ref (ad 12), .ref (ad 13), .ref (ad 14), .ref (ad 15), .ref (ad 16), .ref (ad 17), .ref (ad 18), .int 0, .int 0, .int 0, .int 0, .int 1, .int 0, .int 0, .int 0])), ((ad 2), .inr (0, [.ref (ad 20), .ref (ad 21), .ref (ad 22), .ref (ad 23), .ref (ad 24), .ref (ad 25), .ref (ad 26), .ref (ad 27), .ref (ad 28), .int 0, .int 0, .int 0, .int 0, .int 1, .int 0, .int 0, .int 0])), ((ad 10), .inl (k 0, 16, .inl (fun _ => 0))), ((ad 11), .inl (k 0, 16, .inl (fun _ => 0))), ((ad 12), .inl (k 0, 16, .inl (fun _ => 0))), ((ad 13), .inl (k 0, 16, .inl (fun _ => 0))), ((ad 14), .inl (k 0, 6, .inl (fun _ => 0))), ((ad 15), .inl (k 0, 6, .inl (fun _ => 0))), ((ad 16), .inl (k 0, 6, .inl (fun _ => 0))), ((ad 17), .inl (k 0, 6, .inl (fun _ => 0))), ((ad 18), .inl (k 0, 96, .inl wn)), ((ad 20), .inl (k 0, 16, .inl (fun _ => 0))), ((ad 21), .inl (k 0, 16, .inl (fun _ => 0))), ((ad 22), .inl (k 0, 16, .inl (fun _ => 0))), ((ad 23), .inl (k 0, 16, .inl (fun _ => 0))), ((ad 24), .inl (k 0, 6, .inl (fun _ => 0))), ((ad 25), .inl (k 0, 6, .inl (fun _ => 0))), ((ad 26), .inl (k 0, 6, .inl (fun _ => 0))), ((ad 27), .inl (k 0, 6, .inl (fun _ => 0))), ((ad 28), .inl (k 0, 96, .inl wk))]) sz) (gx_Qi D (fun (r : Int32) (u : Unit) => r = 1) (fun (u : Unit) => ([] : va_W)) (va_A ([((ad 0), .inr (4, [.ref (ad 1), .ref (ad 2), .ref (ad 3), .ref (ad 4), .ref (ad 5), .ref (ad 6), .ref (ad 7), .ref (ad 8), .ref (ad 9), .int 0])), ((ad 1), .inr (0, [.ref (ad 10), .ref (ad 11), .ref (ad 12), .ref (ad 13), .ref (ad 14), .ref (ad 15), .ref (ad 16), .ref (ad 17), .ref (ad 18), .int 0, .int 0, .int 0, .int 0, .int 1, .int 0, .int 0, .int 0])), ((ad 2), .inr (0, [.ref (ad 20), .ref (ad 21), .ref (ad 22), .ref (ad 23), .ref (ad 24), .ref (ad 25), .ref (ad 26), .ref (ad 27), .ref (ad 28), .int 0, .int 0, .int 0, .int 0, .int 1, .int 0, .int 0, .int 0])), ((ad 10), .inl (k 0, 16, .inl (fun _ => 0))), ((ad 11), .inl (k 0, 16, .inl (fun _ => 0))), ((ad 12), .inl (k 0, 16, .inl (fun _ => 0))), ((ad 13), .inl (k 0, 16, .inl (fun _ => 0))), ((ad 14), .inl (k 0, 6, .inl (fun _ => 0))), ((ad 15), .inl (k 0, 6, .inl (fun _ => 0))), ((ad 16), .inl (k 0, 6, .inl (fun _ => 0))), ((ad 17), .inl (k 0, 6, .inl (fun _ => 0))), ((ad 18), .inl (k 0, 96, .inl wn)), ((ad 20), .inl (k 0, 16, .inl (fun _ => 0))), ((ad 21), .inl (k 0, 16, .inl (fun _ => 0))), ((ad 22), .inl (k 0, 16, .inl (fun _ => 0))), ((ad 23), .inl (k 0, 16, .inl (fun _ => 0))), ((ad 24), .inl (k 0, 6, .inl (fun _ => 0))), ((ad 25), .inl (k 0, 6, .inl (fun _ => 0))), ((ad 26), .inl (k 0, 6, .inl (fun _ => 0))), ((ad 27), .inl (k 0, 6, .inl (fun _ => 0))), ((ad 28), .inl (k 0, 96, .inl wk))]) sz)) 0 0 (va_A ([((ad 0), .inr (4, [.ref (ad 1), .ref (ad 2), .ref (ad 3), .ref (ad 4), .ref (ad 5), .ref (ad 6), .ref (ad 7), .ref (ad 8), .ref (ad 9), .int 0])), ((ad 1), .inr (0, [.ref (ad 10), .ref (ad 11), .ref (ad 12), .ref (ad 13), .ref (ad 14), .ref (ad 15), .ref (ad 16), .ref (ad 17), .ref (ad 18), .int 0, .int 0, .int 0, .int 0, .int 1, .int 0, .int 0, .int 0])), ((ad 2), .inr (0, [.ref (ad 20), .ref (ad 21), .ref (ad 22), .ref (ad 23), .ref (ad 24), .ref (ad 25), .ref (ad 26), .ref (ad 27), .ref (ad 28), .int 0, .int 0, .int 0, .int 0, .int 1, .int 0, .int 0, .int 0])), ((ad 10), .inl (k 0, 16, .inl (fun _ => 0))), ((ad 11), .inl (k 0, 16, .inl (fun _ => 0))), ((ad 12), .inl (k 0, 16, .inl (fun _ => 0))), ((ad 13), .inl (k 0, 16, .inl (fun _ => 0))), ((ad 14), .inl (k 0, 6, .inl (fun _ => 0))), ((ad 15), .inl (k 0, 6, .inl (fun _ => 0))), ((ad 16), .inl (k 0, 6, .inl (fun _ => 0))), ((ad 17), .inl (k 0, 6, .inl (fun _ => 0))), ((ad 18), .inl (k 0, 96, .inl wn)), ((ad 20), .inl (k 0, 16, .inl (fun _ => 0))), ((ad 21), .inl (k 0, 16, .inl (fun _ => 0))), ((ad 22), .inl (k 0, 16, .inl (fun _ => 0))), ((ad 23), .inl (k 0, 16, .inl (fun _ => 0))), ((ad 24), .inl (k 0, 6, .inl (fun _ => 0))), ((ad 25), .inl (k 0, 6, .inl (fun _ => 0))), ((ad 26), .inl (k 0, 6, .inl (fun _ => 0))), ((ad 27), .inl (k 0, 6, .inl (fun _ => 0))), ((ad 28), .inl (k 0, 96, .inl wk))]) sz) := by
  refine gx_metE (Qc := fun A => gx_Qi D (fun (r : Int32) (u : Unit) => r = 1) (fun (u : Unit) => ([] : va_W)) A) (by decide) (Nat.le_of_ble_eq_true rfl) ?_
  intro p e s m below meth c A ls C hA hP hD hK hS hl
  obtain ⟨hx, hb, hr, hml, hown, hT, hlk, hin⟩ := id C
  have hown : s.vm.findClass RX6 = some m.cls := hown
  have hl : lv_has ls 1 [(0, .ref (ad 0))] := hl
  refine lv_aload_n hx hb dX6_image_0 rfl (lv_at hl 0 rfl) ?_
  refine va_get (D := D) (ci := 4) (v := .ref (ad 2)) (C := RX6) (T := TX6) (N := 10) hx hb hT iw_TX6 hown hK.1 hP 0 rfl rfl 1 (by decide) (hT _ wd_272) (fun _ h9 => h9) rfl dX6_image_1 ?_
  refine lv_aload_n hx hb dX6_image_4 rfl (lv_at hl 0 rfl) ?_
  refine va_get (D := D) (ci := 4) (v := .ref (ad 1)) (C := RX6) (T := TX6) (N := 10) hx hb hT iw_TX6 hown hK.1 hP 0 rfl rfl 0 (by decide) (hT _ wd_271) (fun _ h9 => h9) rfl dX6_image_5 ?_
  refine gx_ev (wc := ([((ad 2), .inr (0, [.ref (ad 20), .ref (ad 21), .ref (ad 22), .ref (ad 23), .ref (ad 24), .ref (ad 25), .ref (ad 26), .ref (ad 27), .ref (ad 28), .int 0, .int 0, .int 0, .int 0, .int 1, .int 0, .int 0, .int 0])), ((ad 1), .inr (0, [.ref (ad 10), .ref (ad 11), .ref (ad 12), .ref (ad 13), .ref (ad 14), .ref (ad 15), .ref (ad 16), .ref (ad 17), .ref (ad 18), .int 0, .int 0, .int 0, .int 0, .int 1, .int 0, .int 0, .int 0])), ((ad 20), .inl (k 0, 16, .inl (fun _ => 0))), ((ad 21), .inl (k 0, 16, .inl (fun _ => 0))), ((ad 22), .inl (k 0, 16, .inl (fun _ => 0))), ((ad 23), .inl (k 0, 16, .inl (fun _ => 0))), ((ad 24), .inl (k 0, 6, .inl (fun _ => 0))), ((ad 25), .inl (k 0, 6, .inl (fun _ => 0))), ((ad 26), .inl (k 0, 6, .inl (fun _ => 0))), ((ad 27), .inl (k 0, 6, .inl (fun _ => 0))), ((ad 28), .inl (k 0, 96, .inl wk)), ((ad 10), .inl (k 0, 16, .inl (fun _ => 0))), ((ad 11), .inl (k 0, 16, .inl (fun _ => 0))), ((ad 12), .inl (k 0, 16, .inl (fun _ => 0))), ((ad 13), .inl (k 0, 16, .inl (fun _ => 0))), ((ad 14), .inl (k 0, 6, .inl (fun _ => 0))), ((ad 15), .inl (k 0, 6, .inl (fun _ => 0))), ((ad 16), .inl (k 0, 6, .inl (fun _ => 0))), ((ad 17), .inl (k 0, 6, .inl (fun _ => 0))), ((ad 18), .inl (k 0, 96, .inl wn))] : va_W)) (wr := [((ad 0), .inr (4, [.ref (ad 1), .ref (ad 2), .ref (ad 3), .ref (ad 4), .ref (ad 5), .ref (ad 6), .ref (ad 7), .ref (ad 8), .ref (ad 9), .int 0]))]) (isC := [2, 1, 12, 13, 14, 15, 16, 17, 18, 19, 20, 3, 4, 5, 6, 7, 8, 9, 10, 11]) (isR := [0]) hP hD hS hA rfl rfl (by decide) (by decide) (gx_runV (na := 1) (As := [.ref (ad 1)]) (rest := []) (ci := 0) C hl.1 hK (gx_subP (wc := ([((ad 2), .inr (0, [.ref (ad 20), .ref (ad 21), .ref (ad 22), .ref (ad 23), .ref (ad 24), .ref (ad 25), .ref (ad 26), .ref (ad 27), .ref (ad 28), .int 0, .int 0, .int 0, .int 0, .int 1, .int 0, .int 0, .int 0])), ((ad 1), .inr (0, [.ref (ad 10), .ref (ad 11), .ref (ad 12), .ref (ad 13), .ref (ad 14), .ref (ad 15), .ref (ad 16), .ref (ad 17), .ref (ad 18), .int 0, .int 0, .int 0, .int 0, .int 1, .int 0, .int 0, .int 0])), ((ad 20), .inl (k 0, 16, .inl (fun _ => 0))), ((ad 21), .inl (k 0, 16, .inl (fun _ => 0))), ((ad 22), .inl (k 0, 16, .inl (fun _ => 0))), ((ad 23), .inl (k 0, 16, .inl (fun _ => 0))), ((ad 24), .inl (k 0, 6, .inl (fun _ => 0))), ((ad 25), .inl (k 0, 6, .inl (fun _ => 0))), ((ad 26), .inl (k 0, 6, .inl (fun _ => 0))), ((ad 27), .inl (k 0, 6, .inl (fun _ => 0))), ((ad 28), .inl (k 0, 96, .inl wk)), ((ad 10), .inl (k 0, 16, .inl (fun _ => 0))), ((ad 11), .inl (k 0, 16, .inl (fun _ => 0))), ((ad 12), .inl (k 0, 16, .inl (fun _ => 0))), ((ad 13), .inl (k 0, 16, .inl (fun _ => 0))), ((ad 14), .inl (k 0, 6, .inl (fun _ => 0))), ((ad 15), .inl (k 0, 6, .inl (fun _ => 0))), ((ad 16), .inl (k 0, 6, .inl (fun _ => 0))), ((ad 17), .inl (k 0, 6, .inl (fun _ => 0))), ((ad 18), .inl (k 0, 96, .inl wn))] : va_W)) hP [2, 1, 12, 13, 14, 15, 16, 17, 18, 19, 20, 3, 4, 5, 6, 7, 8, 9, 10, 11] rfl) ((hD.sub (ws' := ([((ad 2), .inr (0, [.ref (ad 20), .ref (ad 21), .ref (ad 22), .ref (ad 23), .ref (ad 24), .ref (ad 25), .ref (ad 26), .ref (ad 27), .ref (ad 28), .int 0, .int 0, .int 0, .int 0, .int 1, .int 0, .int 0, .int 0])), ((ad 1), .inr (0, [.ref (ad 10), .ref (ad 11), .ref (ad 12), .ref (ad 13), .ref (ad 14), .ref (ad 15), .ref (ad 16), .ref (ad 17), .ref (ad 18), .int 0, .int 0, .int 0, .int 0, .int 1, .int 0, .int 0, .int 0])), ((ad 20), .inl (k 0, 16, .inl (fun _ => 0))), ((ad 21), .inl (k 0, 16, .inl (fun _ => 0))), ((ad 22), .inl (k 0, 16, .inl (fun _ => 0))), ((ad 23), .inl (k 0, 16, .inl (fun _ => 0))), ((ad 24), .inl (k 0, 6, .inl (fun _ => 0))), ((ad 25), .inl (k 0, 6, .inl (fun _ => 0))), ((ad 26), .inl (k 0, 6, .inl (fun _ => 0))), ((ad 27), .inl (k 0, 6, .inl (fun _ => 0))), ((ad 28), .inl (k 0, 96, .inl wk)), ((ad 10), .inl (k 0, 16, .inl (fun _ => 0))), ((ad 11), .inl (k 0, 16, .inl (fun _ => 0))), ((ad 12), .inl (k 0, 16, .inl (fun _ => 0))), ((ad 13), .inl (k 0, 16, .inl (fun _ => 0))), ((ad 14), .inl (k 0, 6, .inl (fun _ => 0))), ((ad 15), .inl (k 0, 6, .inl (fun _ => 0))), ((ad 16), .inl (k 0, 6, .inl (fun _ => 0))), ((ad 17), .inl (k 0, 6, .inl (fun _ => 0))), ((ad 18), .inl (k 0, 96, .inl wn))] : va_W)) [2, 1, 12, 13, 14, 15, 16, 17, 18, 19, 20, 3, 4, 5, 6, 7, 8, 9, 10, 11] (by decide) rfl).weaken (fun _ _ _ _ => trivial)) (k_become l D k (ad 2) (ad 20) (ad 21) (ad 22) (ad 23) (ad 24) (ad 25) (ad 26) (ad 27) (ad 28) (ad 1) (ad 10) (ad 11) (ad 12) (ad 13) (ad 14) (ad 15) (ad 16) (ad 17) (ad 18) wk wn _) gV_RX6_159 (by decide +kernel) rfl rfl ⟨Nat.le_of_ble_eq_true rfl, Nat.le_of_ble_eq_true rfl⟩ rfl rfl rfl rfl (Nat.le_of_ble_eq_true rfl) dX6_image_8 ⟨Nat.le_of_ble_eq_true rfl, Nat.le_of_ble_eq_true rfl⟩) (fun u_1 H locs h_2 hP hD hS => ?_)
  have hP : va_P D gx_cl [((ad 0), .inr (4, [.ref (ad 1), .ref (ad 2), .ref (ad 3), .ref (ad 4), .ref (ad 5), .ref (ad 6), .ref (ad 7), .ref (ad 8), .ref (ad 9), .int 0])), ((ad 2), .inr (0, [.ref (ad 20), .ref (ad 21), .ref (ad 22), .ref (ad 23), .ref (ad 24), .ref (ad 25), .ref (ad 26), .ref (ad 27), .ref (ad 28), .int 0, .int 0, .int 0, .int 0, .int 1, .int 0, .int 0, .int 0]))] H := hP
  have hD : va_D A [((ad 0), .inr (4, [.ref (ad 1), .ref (ad 2), .ref (ad 3), .ref (ad 4), .ref (ad 5), .ref (ad 6), .ref (ad 7), .ref (ad 8), .ref (ad 9), .int 0])), ((ad 2), .inr (0, [.ref (ad 20), .ref (ad 21), .ref (ad 22), .ref (ad 23), .ref (ad 24), .ref (ad 25), .ref (ad 26), .ref (ad 27), .ref (ad 28), .int 0, .int 0, .int 0, .int 0, .int 1, .int 0, .int 0, .int 0]))] := hD
  refine lv_aload_n hx hb dX6_image_11 rfl (lv_at hl 0 rfl) ?_
  refine lv_iconst (v := 1) hx hb dX6_image_12 (by decide) ?_
  refine va_put (D := D) (ci := 4) (v := .int 1) (ty := .boolean) (C := RX6) (T := TX6) (N := 10) hx hb hT iw_TX6 tyX6 tyX6_ok nmX6 hown hK.1 hP hD hS 0 rfl rfl 9 (by decide) (hT _ wd_280) (fun _ h9 => h9) rfl (by decide +kernel) rfl rfl (Nat.le_of_ble_eq_true rfl) dX6_image_13 (fun H locs hP hD hS => ?_)
  have hP : va_P D gx_cl [((ad 0), .inr (4, [.ref (ad 1), .ref (ad 2), .ref (ad 3), .ref (ad 4), .ref (ad 5), .ref (ad 6), .ref (ad 7), .ref (ad 8), .ref (ad 9), .int 1])), ((ad 2), .inr (0, [.ref (ad 20), .ref (ad 21), .ref (ad 22), .ref (ad 23), .ref (ad 24), .ref (ad 25), .ref (ad 26), .ref (ad 27), .ref (ad 28), .int 0, .int 0, .int 0, .int 0, .int 1, .int 0, .int 0, .int 0]))] H := hP
  have hD : va_D A [((ad 0), .inr (4, [.ref (ad 1), .ref (ad 2), .ref (ad 3), .ref (ad 4), .ref (ad 5), .ref (ad 6), .ref (ad 7), .ref (ad 8), .ref (ad 9), .int 1])), ((ad 2), .inr (0, [.ref (ad 20), .ref (ad 21), .ref (ad 22), .ref (ad 23), .ref (ad 24), .ref (ad 25), .ref (ad 26), .ref (ad 27), .ref (ad 28), .int 0, .int 0, .int 0, .int 0, .int 1, .int 0, .int 0, .int 0]))] := hD
  refine lv_iconst (v := 1) hx hb dX6_image_16 (by decide) ?_
  exact gx_retI C (u := ()) gx_nil gx_noneD hS (rfl) dX6_image_17
set_option maxHeartbeats 4000000 in
set_option maxRecDepth 100000 in
theorem x_back (l : Launch) (D : va_G) (k : Nat → ClassId) (ad : Nat → Nat) (sz : Nat) : Met l yX6_back (.code yX6_back cX6_back 1 (some .int) :: gx_T) ({ frames := 2, cells := 0, slots := 0, locals := 43 }) (gx_Pre D k [.ref (ad 0)] ([((ad 0), .inr (4, [.ref (ad 1), .ref (ad 2), .ref (ad 3), .ref (ad 4), .ref (ad 5), .ref (ad 6), .ref (ad 7), .ref (ad 8), .ref (ad 9), .int 0])), ((ad 9), .inl (k 0, 5, .inl (fun _ => 0)))]) sz) (gx_Qi D (fun (r : Int32) (u : Unit) => r = -5) (fun (u : Unit) => ([] : va_W)) (va_A ([((ad 0), .inr (4, [.ref (ad 1), .ref (ad 2), .ref (ad 3), .ref (ad 4), .ref (ad 5), .ref (ad 6), .ref (ad 7), .ref (ad 8), .ref (ad 9), .int 0])), ((ad 9), .inl (k 0, 5, .inl (fun _ => 0)))]) sz)) 0 0 (va_A ([((ad 0), .inr (4, [.ref (ad 1), .ref (ad 2), .ref (ad 3), .ref (ad 4), .ref (ad 5), .ref (ad 6), .ref (ad 7), .ref (ad 8), .ref (ad 9), .int 0])), ((ad 9), .inl (k 0, 5, .inl (fun _ => 0)))]) sz) := by
  refine gx_metE (Qc := fun A => gx_Qi D (fun (r : Int32) (u : Unit) => r = -5) (fun (u : Unit) => ([] : va_W)) A) (by decide) (Nat.le_of_ble_eq_true rfl) ?_
  intro p e s m below meth c A ls C hA hP hD hK hS hl
  obtain ⟨hx, hb, hr, hml, hown, hT, hlk, hin⟩ := id C
  have hown : s.vm.findClass RX6 = some m.cls := hown
  have hl : lv_has ls 1 [(0, .ref (ad 0))] := hl
  refine lv_aload_n hx hb dX6_back_0 rfl (lv_at hl 0 rfl) ?_
  refine va_get (D := D) (ci := 4) (v := .int 0) (C := RX6) (T := TX6) (N := 10) hx hb hT iw_TX6 hown hK.1 hP 0 rfl rfl 9 (by decide) (hT _ wd_280) (fun _ h9 => h9) rfl dX6_back_1 ?_
  refine lv_if_ne (tgt := 14) hx hb dX6_back_4 (by decide) (fun c_1 => absurd (by decide) c_1) (fun c_1 => ?_)
  refine lv_aload_n hx hb dX6_back_7 rfl (lv_at hl 0 rfl) ?_
  refine lv_bipush (v := (-5)) hx hb dX6_back_8 (by decide) ?_
  refine gx_ei (wc := ([((ad 0), .inr (4, [.ref (ad 1), .ref (ad 2), .ref (ad 3), .ref (ad 4), .ref (ad 5), .ref (ad 6), .ref (ad 7), .ref (ad 8), .ref (ad 9), .int 0])), ((ad 9), .inl (k 0, 5, .inl (fun _ => 0)))] : va_W)) (wr := []) (isC := [0, 1]) (isR := []) hP hD hS hA rfl rfl (by decide) (by decide) (gx_runV (na := 1) (As := [.int (-5)]) (rest := []) (ci := 4) C hl.1 hK (gx_subP (wc := ([((ad 0), .inr (4, [.ref (ad 1), .ref (ad 2), .ref (ad 3), .ref (ad 4), .ref (ad 5), .ref (ad 6), .ref (ad 7), .ref (ad 8), .ref (ad 9), .int 0])), ((ad 9), .inl (k 0, 5, .inl (fun _ => 0)))] : va_W)) hP [0, 1] rfl) ((hD.sub (ws' := ([((ad 0), .inr (4, [.ref (ad 1), .ref (ad 2), .ref (ad 3), .ref (ad 4), .ref (ad 5), .ref (ad 6), .ref (ad 7), .ref (ad 8), .ref (ad 9), .int 0])), ((ad 9), .inl (k 0, 5, .inl (fun _ => 0)))] : va_W)) [0, 1] (by decide) rfl).weaken (fun _ _ _ _ => trivial)) (k_refuse5 l D k ad _) gV_RX6_61 (by decide +kernel) rfl rfl ⟨Nat.le_of_ble_eq_true rfl, Nat.le_of_ble_eq_true rfl⟩ rfl rfl rfl rfl (Nat.le_of_ble_eq_true rfl) dX6_back_10 ⟨Nat.le_of_ble_eq_true rfl, Nat.le_of_ble_eq_true rfl⟩) (fun r_4 u_2 H locs h_3 hP hD hS => ?_)
  have h_3 : r_4 = -5 := h_3
  have hP : va_P D gx_cl [] H := hP
  have hD : va_D A [] := hD
  have eh_3 := h_3
  subst eh_3
  exact gx_retI C (u := ()) gx_nil gx_noneD hS (rfl) dX6_back_13
set_option maxHeartbeats 4000000 in
set_option maxRecDepth 100000 in
theorem k_filled (l : Launch) (D : va_G) (k : Nat → ClassId) (ad : Nat → Nat) (fs : Nat → Option Nat) (hfs : ∀ i, i < 8 → fs i = some (ad (50 + i))) (sz : Nat) : Met l yX6_filledShelves (.code yX6_filledShelves cX6_filledShelves 3 (some .int) :: gx_T) ({ frames := 1, cells := 0, slots := 0, locals := 20 }) (gx_Pre D k [.ref (ad 0)] ([((ad 0), .inr (4, [.ref (ad 1), .ref (ad 2), .ref (ad 3), .ref (ad 4), .ref (ad 5), .ref (ad 6), .ref (ad 7), .ref (ad 8), .ref (ad 9), .int 0])), ((ad 5), .inl (k 2, 8, .inr (.inr (.inr (.inr fs))))), ((ad 50), .inr (1, [.ref (ad 60), .int 0, .int 0, .int (-1)])), ((ad 51), .inr (1, [.ref (ad 61), .int 0, .int 0, .int (-1)])), ((ad 52), .inr (1, [.ref (ad 62), .int 0, .int 0, .int (-1)])), ((ad 53), .inr (1, [.ref (ad 63), .int 0, .int 0, .int (-1)])), ((ad 54), .inr (1, [.ref (ad 64), .int 0, .int 0, .int (-1)])), ((ad 55), .inr (1, [.ref (ad 65), .int 0, .int 0, .int (-1)])), ((ad 56), .inr (1, [.ref (ad 66), .int 0, .int 0, .int (-1)])), ((ad 57), .inr (1, [.ref (ad 67), .int 0, .int 0, .int (-1)]))]) sz) (gx_Pi (fun r => r = 0)) 0 0 gx_No := by
  refine gx_metP (by decide) (Nat.le_of_ble_eq_true rfl) ?_
  intro p e s m below meth c ls C hP hD hK hS hl
  obtain ⟨hx, hb, hr, hml, hown, hT, hlk, hin⟩ := id C
  have hown : s.vm.findClass RX6 = some m.cls := hown
  have hl : lv_has ls 3 [(0, .ref (ad 0))] := hl
  refine lv_iconst (v := 0) hx hb dX6_filledShelves_0 (by decide) ?_
  refine lv_istore_n (lv' := [(1, .int 0), (0, .ref (ad 0))]) hx hb dX6_filledShelves_1 rfl hl (by decide) rfl (fun ls hl => ?_)
  refine lv_iconst (v := 0) hx hb dX6_filledShelves_2 (by decide) ?_
  refine lv_istore_n (lv' := [(2, .int 0), (1, .int 0), (0, .ref (ad 0))]) hx hb dX6_filledShelves_3 rfl hl (by decide) rfl (fun ls hl => ?_)
  refine lv_iload_n hx hb dX6_filledShelves_4 rfl (lv_at hl 0 rfl) ?_
  refine lv_bipush (v := 8) hx hb dX6_filledShelves_5 (by decide) ?_
  refine lv_icmp_ge (tgt := 31) hx hb dX6_filledShelves_7 (by decide) (fun c_1 => absurd c_1 (by decide)) (fun c_1 => ?_)
  refine lv_aload_n hx hb dX6_filledShelves_10 rfl (lv_at hl 2 rfl) ?_
  refine va_get (D := D) (ci := 4) (v := .ref (ad 5)) (C := RX6) (T := TX6) (N := 10) hx hb hT iw_TX6 hown hK.1 hP 0 rfl rfl 4 (by decide) (hT _ wd_275) (fun _ h9 => h9) rfl dX6_filledShelves_11 ?_
  refine lv_iload_n hx hb dX6_filledShelves_14 rfl (lv_at hl 0 rfl) ?_
  refine va_aldq hx hb hK.1 hP 1 2 rfl rfl (gx_vin rfl) dX6_filledShelves_15 ?_
  refine gx_csr (v := .ref (ad 50)) (congrArg va_rf (hfs 0 (by decide))) ?_
  refine gx_pi hP hS (gx_runV (na := 0) (As := []) (rest := []) (ci := 1) C hl.1 hK (gx_subP (wc := ([((ad 50), .inr (1, [.ref (ad 60), .int 0, .int 0, .int (-1)]))] : va_W)) hP [2] rfl) ((hD.sub (ws' := ([((ad 50), .inr (1, [.ref (ad 60), .int 0, .int 0, .int (-1)]))] : va_W)) [2] (by decide) rfl).weaken (fun _ _ _ _ => trivial)) (k_isEmpty l D k (ad 50) (ad 60) 0 0 _) gV_RX6_312 (by decide +kernel) rfl rfl ⟨Nat.le_of_ble_eq_true rfl, Nat.le_of_ble_eq_true rfl⟩ rfl rfl rfl rfl (Nat.le_of_ble_eq_true rfl) dX6_filledShelves_16 ⟨Nat.le_of_ble_eq_true rfl, Nat.le_of_ble_eq_true rfl⟩) (fun r_3 H locs c_2 hP hS => ?_)
  have c_2 : r_3 = 1 := c_2
  subst c_2
  refine lv_if_ne (tgt := 25) hx hb dX6_filledShelves_19 (by decide) (fun c_4 => ?_) (fun c_4 => absurd c_4 (by decide))
  refine lv_iinc (v := 1) (lv' := [(2, .int 1), (1, .int 0), (0, .ref (ad 0))]) hx hb dX6_filledShelves_25 hl (k := 0) rfl (by decide) (by decide) rfl (fun ls hl => ?_)
  refine lv_goto (tgt := 4) hx hb dX6_filledShelves_28 (by decide) ?_
  refine lv_iload_n hx hb dX6_filledShelves_4 rfl (lv_at hl 0 rfl) ?_
  refine lv_bipush (v := 8) hx hb dX6_filledShelves_5 (by decide) ?_
  refine lv_icmp_ge (tgt := 31) hx hb dX6_filledShelves_7 (by decide) (fun c_5 => absurd c_5 (by decide)) (fun c_5 => ?_)
  refine lv_aload_n hx hb dX6_filledShelves_10 rfl (lv_at hl 2 rfl) ?_
  refine va_get (D := D) (ci := 4) (v := .ref (ad 5)) (C := RX6) (T := TX6) (N := 10) hx hb hT iw_TX6 hown hK.1 hP 0 rfl rfl 4 (by decide) (hT _ wd_275) (fun _ h9 => h9) rfl dX6_filledShelves_11 ?_
  refine lv_iload_n hx hb dX6_filledShelves_14 rfl (lv_at hl 0 rfl) ?_
  refine va_aldq hx hb hK.1 hP 1 2 rfl rfl (gx_vin rfl) dX6_filledShelves_15 ?_
  refine gx_csr (v := .ref (ad 51)) (congrArg va_rf (hfs 1 (by decide))) ?_
  refine gx_pi hP hS (gx_runV (na := 0) (As := []) (rest := []) (ci := 1) C hl.1 hK (gx_subP (wc := ([((ad 51), .inr (1, [.ref (ad 61), .int 0, .int 0, .int (-1)]))] : va_W)) hP [3] rfl) ((hD.sub (ws' := ([((ad 51), .inr (1, [.ref (ad 61), .int 0, .int 0, .int (-1)]))] : va_W)) [3] (by decide) rfl).weaken (fun _ _ _ _ => trivial)) (k_isEmpty l D k (ad 51) (ad 61) 0 0 _) gV_RX6_312 (by decide +kernel) rfl rfl ⟨Nat.le_of_ble_eq_true rfl, Nat.le_of_ble_eq_true rfl⟩ rfl rfl rfl rfl (Nat.le_of_ble_eq_true rfl) dX6_filledShelves_16 ⟨Nat.le_of_ble_eq_true rfl, Nat.le_of_ble_eq_true rfl⟩) (fun r_7 H locs c_6 hP hS => ?_)
  have c_6 : r_7 = 1 := c_6
  subst c_6
  refine lv_if_ne (tgt := 25) hx hb dX6_filledShelves_19 (by decide) (fun c_8 => ?_) (fun c_8 => absurd c_8 (by decide))
  refine lv_iinc (v := 2) (lv' := [(2, .int 2), (1, .int 0), (0, .ref (ad 0))]) hx hb dX6_filledShelves_25 hl (k := 0) rfl (by decide) (by decide) rfl (fun ls hl => ?_)
  refine lv_goto (tgt := 4) hx hb dX6_filledShelves_28 (by decide) ?_
  refine lv_iload_n hx hb dX6_filledShelves_4 rfl (lv_at hl 0 rfl) ?_
  refine lv_bipush (v := 8) hx hb dX6_filledShelves_5 (by decide) ?_
  refine lv_icmp_ge (tgt := 31) hx hb dX6_filledShelves_7 (by decide) (fun c_9 => absurd c_9 (by decide)) (fun c_9 => ?_)
  refine lv_aload_n hx hb dX6_filledShelves_10 rfl (lv_at hl 2 rfl) ?_
  refine va_get (D := D) (ci := 4) (v := .ref (ad 5)) (C := RX6) (T := TX6) (N := 10) hx hb hT iw_TX6 hown hK.1 hP 0 rfl rfl 4 (by decide) (hT _ wd_275) (fun _ h9 => h9) rfl dX6_filledShelves_11 ?_
  refine lv_iload_n hx hb dX6_filledShelves_14 rfl (lv_at hl 0 rfl) ?_
  refine va_aldq hx hb hK.1 hP 1 2 rfl rfl (gx_vin rfl) dX6_filledShelves_15 ?_
  refine gx_csr (v := .ref (ad 52)) (congrArg va_rf (hfs 2 (by decide))) ?_
  refine gx_pi hP hS (gx_runV (na := 0) (As := []) (rest := []) (ci := 1) C hl.1 hK (gx_subP (wc := ([((ad 52), .inr (1, [.ref (ad 62), .int 0, .int 0, .int (-1)]))] : va_W)) hP [4] rfl) ((hD.sub (ws' := ([((ad 52), .inr (1, [.ref (ad 62), .int 0, .int 0, .int (-1)]))] : va_W)) [4] (by decide) rfl).weaken (fun _ _ _ _ => trivial)) (k_isEmpty l D k (ad 52) (ad 62) 0 0 _) gV_RX6_312 (by decide +kernel) rfl rfl ⟨Nat.le_of_ble_eq_true rfl, Nat.le_of_ble_eq_true rfl⟩ rfl rfl rfl rfl (Nat.le_of_ble_eq_true rfl) dX6_filledShelves_16 ⟨Nat.le_of_ble_eq_true rfl, Nat.le_of_ble_eq_true rfl⟩) (fun r_11 H locs c_10 hP hS => ?_)
  have c_10 : r_11 = 1 := c_10
  subst c_10
  refine lv_if_ne (tgt := 25) hx hb dX6_filledShelves_19 (by decide) (fun c_12 => ?_) (fun c_12 => absurd c_12 (by decide))
  refine lv_iinc (v := 3) (lv' := [(2, .int 3), (1, .int 0), (0, .ref (ad 0))]) hx hb dX6_filledShelves_25 hl (k := 0) rfl (by decide) (by decide) rfl (fun ls hl => ?_)
  refine lv_goto (tgt := 4) hx hb dX6_filledShelves_28 (by decide) ?_
  refine lv_iload_n hx hb dX6_filledShelves_4 rfl (lv_at hl 0 rfl) ?_
  refine lv_bipush (v := 8) hx hb dX6_filledShelves_5 (by decide) ?_
  refine lv_icmp_ge (tgt := 31) hx hb dX6_filledShelves_7 (by decide) (fun c_13 => absurd c_13 (by decide)) (fun c_13 => ?_)
  refine lv_aload_n hx hb dX6_filledShelves_10 rfl (lv_at hl 2 rfl) ?_
  refine va_get (D := D) (ci := 4) (v := .ref (ad 5)) (C := RX6) (T := TX6) (N := 10) hx hb hT iw_TX6 hown hK.1 hP 0 rfl rfl 4 (by decide) (hT _ wd_275) (fun _ h9 => h9) rfl dX6_filledShelves_11 ?_
  refine lv_iload_n hx hb dX6_filledShelves_14 rfl (lv_at hl 0 rfl) ?_
  refine va_aldq hx hb hK.1 hP 1 2 rfl rfl (gx_vin rfl) dX6_filledShelves_15 ?_
  refine gx_csr (v := .ref (ad 53)) (congrArg va_rf (hfs 3 (by decide))) ?_
  refine gx_pi hP hS (gx_runV (na := 0) (As := []) (rest := []) (ci := 1) C hl.1 hK (gx_subP (wc := ([((ad 53), .inr (1, [.ref (ad 63), .int 0, .int 0, .int (-1)]))] : va_W)) hP [5] rfl) ((hD.sub (ws' := ([((ad 53), .inr (1, [.ref (ad 63), .int 0, .int 0, .int (-1)]))] : va_W)) [5] (by decide) rfl).weaken (fun _ _ _ _ => trivial)) (k_isEmpty l D k (ad 53) (ad 63) 0 0 _) gV_RX6_312 (by decide +kernel) rfl rfl ⟨Nat.le_of_ble_eq_true rfl, Nat.le_of_ble_eq_true rfl⟩ rfl rfl rfl rfl (Nat.le_of_ble_eq_true rfl) dX6_filledShelves_16 ⟨Nat.le_of_ble_eq_true rfl, Nat.le_of_ble_eq_true rfl⟩) (fun r_15 H locs c_14 hP hS => ?_)
  have c_14 : r_15 = 1 := c_14
  subst c_14
  refine lv_if_ne (tgt := 25) hx hb dX6_filledShelves_19 (by decide) (fun c_16 => ?_) (fun c_16 => absurd c_16 (by decide))
  refine lv_iinc (v := 4) (lv' := [(2, .int 4), (1, .int 0), (0, .ref (ad 0))]) hx hb dX6_filledShelves_25 hl (k := 0) rfl (by decide) (by decide) rfl (fun ls hl => ?_)
  refine lv_goto (tgt := 4) hx hb dX6_filledShelves_28 (by decide) ?_
  refine lv_iload_n hx hb dX6_filledShelves_4 rfl (lv_at hl 0 rfl) ?_
  refine lv_bipush (v := 8) hx hb dX6_filledShelves_5 (by decide) ?_
  refine lv_icmp_ge (tgt := 31) hx hb dX6_filledShelves_7 (by decide) (fun c_17 => absurd c_17 (by decide)) (fun c_17 => ?_)
  refine lv_aload_n hx hb dX6_filledShelves_10 rfl (lv_at hl 2 rfl) ?_
  refine va_get (D := D) (ci := 4) (v := .ref (ad 5)) (C := RX6) (T := TX6) (N := 10) hx hb hT iw_TX6 hown hK.1 hP 0 rfl rfl 4 (by decide) (hT _ wd_275) (fun _ h9 => h9) rfl dX6_filledShelves_11 ?_
  refine lv_iload_n hx hb dX6_filledShelves_14 rfl (lv_at hl 0 rfl) ?_
  refine va_aldq hx hb hK.1 hP 1 2 rfl rfl (gx_vin rfl) dX6_filledShelves_15 ?_
  refine gx_csr (v := .ref (ad 54)) (congrArg va_rf (hfs 4 (by decide))) ?_
  refine gx_pi hP hS (gx_runV (na := 0) (As := []) (rest := []) (ci := 1) C hl.1 hK (gx_subP (wc := ([((ad 54), .inr (1, [.ref (ad 64), .int 0, .int 0, .int (-1)]))] : va_W)) hP [6] rfl) ((hD.sub (ws' := ([((ad 54), .inr (1, [.ref (ad 64), .int 0, .int 0, .int (-1)]))] : va_W)) [6] (by decide) rfl).weaken (fun _ _ _ _ => trivial)) (k_isEmpty l D k (ad 54) (ad 64) 0 0 _) gV_RX6_312 (by decide +kernel) rfl rfl ⟨Nat.le_of_ble_eq_true rfl, Nat.le_of_ble_eq_true rfl⟩ rfl rfl rfl rfl (Nat.le_of_ble_eq_true rfl) dX6_filledShelves_16 ⟨Nat.le_of_ble_eq_true rfl, Nat.le_of_ble_eq_true rfl⟩) (fun r_19 H locs c_18 hP hS => ?_)
  have c_18 : r_19 = 1 := c_18
  subst c_18
  refine lv_if_ne (tgt := 25) hx hb dX6_filledShelves_19 (by decide) (fun c_20 => ?_) (fun c_20 => absurd c_20 (by decide))
  refine lv_iinc (v := 5) (lv' := [(2, .int 5), (1, .int 0), (0, .ref (ad 0))]) hx hb dX6_filledShelves_25 hl (k := 0) rfl (by decide) (by decide) rfl (fun ls hl => ?_)
  refine lv_goto (tgt := 4) hx hb dX6_filledShelves_28 (by decide) ?_
  refine lv_iload_n hx hb dX6_filledShelves_4 rfl (lv_at hl 0 rfl) ?_
  refine lv_bipush (v := 8) hx hb dX6_filledShelves_5 (by decide) ?_
  refine lv_icmp_ge (tgt := 31) hx hb dX6_filledShelves_7 (by decide) (fun c_21 => absurd c_21 (by decide)) (fun c_21 => ?_)
  refine lv_aload_n hx hb dX6_filledShelves_10 rfl (lv_at hl 2 rfl) ?_
  refine va_get (D := D) (ci := 4) (v := .ref (ad 5)) (C := RX6) (T := TX6) (N := 10) hx hb hT iw_TX6 hown hK.1 hP 0 rfl rfl 4 (by decide) (hT _ wd_275) (fun _ h9 => h9) rfl dX6_filledShelves_11 ?_
  refine lv_iload_n hx hb dX6_filledShelves_14 rfl (lv_at hl 0 rfl) ?_
  refine va_aldq hx hb hK.1 hP 1 2 rfl rfl (gx_vin rfl) dX6_filledShelves_15 ?_
  refine gx_csr (v := .ref (ad 55)) (congrArg va_rf (hfs 5 (by decide))) ?_
  refine gx_pi hP hS (gx_runV (na := 0) (As := []) (rest := []) (ci := 1) C hl.1 hK (gx_subP (wc := ([((ad 55), .inr (1, [.ref (ad 65), .int 0, .int 0, .int (-1)]))] : va_W)) hP [7] rfl) ((hD.sub (ws' := ([((ad 55), .inr (1, [.ref (ad 65), .int 0, .int 0, .int (-1)]))] : va_W)) [7] (by decide) rfl).weaken (fun _ _ _ _ => trivial)) (k_isEmpty l D k (ad 55) (ad 65) 0 0 _) gV_RX6_312 (by decide +kernel) rfl rfl ⟨Nat.le_of_ble_eq_true rfl, Nat.le_of_ble_eq_true rfl⟩ rfl rfl rfl rfl (Nat.le_of_ble_eq_true rfl) dX6_filledShelves_16 ⟨Nat.le_of_ble_eq_true rfl, Nat.le_of_ble_eq_true rfl⟩) (fun r_23 H locs c_22 hP hS => ?_)
  have c_22 : r_23 = 1 := c_22
  subst c_22
  refine lv_if_ne (tgt := 25) hx hb dX6_filledShelves_19 (by decide) (fun c_24 => ?_) (fun c_24 => absurd c_24 (by decide))
  refine lv_iinc (v := 6) (lv' := [(2, .int 6), (1, .int 0), (0, .ref (ad 0))]) hx hb dX6_filledShelves_25 hl (k := 0) rfl (by decide) (by decide) rfl (fun ls hl => ?_)
  refine lv_goto (tgt := 4) hx hb dX6_filledShelves_28 (by decide) ?_
  refine lv_iload_n hx hb dX6_filledShelves_4 rfl (lv_at hl 0 rfl) ?_
  refine lv_bipush (v := 8) hx hb dX6_filledShelves_5 (by decide) ?_
  refine lv_icmp_ge (tgt := 31) hx hb dX6_filledShelves_7 (by decide) (fun c_25 => absurd c_25 (by decide)) (fun c_25 => ?_)
  refine lv_aload_n hx hb dX6_filledShelves_10 rfl (lv_at hl 2 rfl) ?_
  refine va_get (D := D) (ci := 4) (v := .ref (ad 5)) (C := RX6) (T := TX6) (N := 10) hx hb hT iw_TX6 hown hK.1 hP 0 rfl rfl 4 (by decide) (hT _ wd_275) (fun _ h9 => h9) rfl dX6_filledShelves_11 ?_
  refine lv_iload_n hx hb dX6_filledShelves_14 rfl (lv_at hl 0 rfl) ?_
  refine va_aldq hx hb hK.1 hP 1 2 rfl rfl (gx_vin rfl) dX6_filledShelves_15 ?_
  refine gx_csr (v := .ref (ad 56)) (congrArg va_rf (hfs 6 (by decide))) ?_
  refine gx_pi hP hS (gx_runV (na := 0) (As := []) (rest := []) (ci := 1) C hl.1 hK (gx_subP (wc := ([((ad 56), .inr (1, [.ref (ad 66), .int 0, .int 0, .int (-1)]))] : va_W)) hP [8] rfl) ((hD.sub (ws' := ([((ad 56), .inr (1, [.ref (ad 66), .int 0, .int 0, .int (-1)]))] : va_W)) [8] (by decide) rfl).weaken (fun _ _ _ _ => trivial)) (k_isEmpty l D k (ad 56) (ad 66) 0 0 _) gV_RX6_312 (by decide +kernel) rfl rfl ⟨Nat.le_of_ble_eq_true rfl, Nat.le_of_ble_eq_true rfl⟩ rfl rfl rfl rfl (Nat.le_of_ble_eq_true rfl) dX6_filledShelves_16 ⟨Nat.le_of_ble_eq_true rfl, Nat.le_of_ble_eq_true rfl⟩) (fun r_27 H locs c_26 hP hS => ?_)
  have c_26 : r_27 = 1 := c_26
  subst c_26
  refine lv_if_ne (tgt := 25) hx hb dX6_filledShelves_19 (by decide) (fun c_28 => ?_) (fun c_28 => absurd c_28 (by decide))
  refine lv_iinc (v := 7) (lv' := [(2, .int 7), (1, .int 0), (0, .ref (ad 0))]) hx hb dX6_filledShelves_25 hl (k := 0) rfl (by decide) (by decide) rfl (fun ls hl => ?_)
  refine lv_goto (tgt := 4) hx hb dX6_filledShelves_28 (by decide) ?_
  refine lv_iload_n hx hb dX6_filledShelves_4 rfl (lv_at hl 0 rfl) ?_
  refine lv_bipush (v := 8) hx hb dX6_filledShelves_5 (by decide) ?_
  refine lv_icmp_ge (tgt := 31) hx hb dX6_filledShelves_7 (by decide) (fun c_29 => absurd c_29 (by decide)) (fun c_29 => ?_)
  refine lv_aload_n hx hb dX6_filledShelves_10 rfl (lv_at hl 2 rfl) ?_
  refine va_get (D := D) (ci := 4) (v := .ref (ad 5)) (C := RX6) (T := TX6) (N := 10) hx hb hT iw_TX6 hown hK.1 hP 0 rfl rfl 4 (by decide) (hT _ wd_275) (fun _ h9 => h9) rfl dX6_filledShelves_11 ?_
  refine lv_iload_n hx hb dX6_filledShelves_14 rfl (lv_at hl 0 rfl) ?_
  refine va_aldq hx hb hK.1 hP 1 2 rfl rfl (gx_vin rfl) dX6_filledShelves_15 ?_
  refine gx_csr (v := .ref (ad 57)) (congrArg va_rf (hfs 7 (by decide))) ?_
  refine gx_pi hP hS (gx_runV (na := 0) (As := []) (rest := []) (ci := 1) C hl.1 hK (gx_subP (wc := ([((ad 57), .inr (1, [.ref (ad 67), .int 0, .int 0, .int (-1)]))] : va_W)) hP [9] rfl) ((hD.sub (ws' := ([((ad 57), .inr (1, [.ref (ad 67), .int 0, .int 0, .int (-1)]))] : va_W)) [9] (by decide) rfl).weaken (fun _ _ _ _ => trivial)) (k_isEmpty l D k (ad 57) (ad 67) 0 0 _) gV_RX6_312 (by decide +kernel) rfl rfl ⟨Nat.le_of_ble_eq_true rfl, Nat.le_of_ble_eq_true rfl⟩ rfl rfl rfl rfl (Nat.le_of_ble_eq_true rfl) dX6_filledShelves_16 ⟨Nat.le_of_ble_eq_true rfl, Nat.le_of_ble_eq_true rfl⟩) (fun r_31 H locs c_30 hP hS => ?_)
  have c_30 : r_31 = 1 := c_30
  subst c_30
  refine lv_if_ne (tgt := 25) hx hb dX6_filledShelves_19 (by decide) (fun c_32 => ?_) (fun c_32 => absurd c_32 (by decide))
  refine lv_iinc (v := 8) (lv' := [(2, .int 8), (1, .int 0), (0, .ref (ad 0))]) hx hb dX6_filledShelves_25 hl (k := 0) rfl (by decide) (by decide) rfl (fun ls hl => ?_)
  refine lv_goto (tgt := 4) hx hb dX6_filledShelves_28 (by decide) ?_
  refine lv_iload_n hx hb dX6_filledShelves_4 rfl (lv_at hl 0 rfl) ?_
  refine lv_bipush (v := 8) hx hb dX6_filledShelves_5 (by decide) ?_
  refine lv_icmp_ge (tgt := 31) hx hb dX6_filledShelves_7 (by decide) (fun c_33 => ?_) (fun c_33 => absurd (by decide) c_33)
  refine lv_iload_n hx hb dX6_filledShelves_31 rfl (lv_at hl 1 rfl) ?_
  exact gx_retP C hS (rfl) dX6_filledShelves_32
set_option maxHeartbeats 4000000 in
set_option maxRecDepth 100000 in
theorem x_status (l : Launch) (D : va_G) (k : Nat → ClassId) (ad : Nat → Nat) (fs : Nat → Option Nat) (wv : Int32) (hfs : ∀ i, i < 8 → fs i = some (ad (50 + i))) (sz : Nat) : Met l yX6_status (.code yX6_status cX6_status 2 (some .int) :: gx_T) ({ frames := 2, cells := 0, slots := 0, locals := 42 }) (gx_Pre D k [.ref (ad 0), .int wv] ([((ad 0), .inr (4, [.ref (ad 1), .ref (ad 2), .ref (ad 3), .ref (ad 4), .ref (ad 5), .ref (ad 6), .ref (ad 7), .ref (ad 8), .ref (ad 9), .int 0])), ((ad 1), .inr (0, [.ref (ad 10), .ref (ad 11), .ref (ad 12), .ref (ad 13), .ref (ad 14), .ref (ad 15), .ref (ad 16), .ref (ad 17), .ref (ad 18), .int 0, .int 0, .int 0, .int 0, .int 1, .int 0, .int 0, .int 0])), ((ad 4), .inr (2, [.ref (ad 40), .int 0, .int (-1), .int 0, .int 0, .int 0])), ((ad 9), .inl (k 0, 5, .inl (fun _ => 0))), ((ad 5), .inl (k 2, 8, .inr (.inr (.inr (.inr fs))))), ((ad 50), .inr (1, [.ref (ad 60), .int 0, .int 0, .int (-1)])), ((ad 51), .inr (1, [.ref (ad 61), .int 0, .int 0, .int (-1)])), ((ad 52), .inr (1, [.ref (ad 62), .int 0, .int 0, .int (-1)])), ((ad 53), .inr (1, [.ref (ad 63), .int 0, .int 0, .int (-1)])), ((ad 54), .inr (1, [.ref (ad 64), .int 0, .int 0, .int (-1)])), ((ad 55), .inr (1, [.ref (ad 65), .int 0, .int 0, .int (-1)])), ((ad 56), .inr (1, [.ref (ad 66), .int 0, .int 0, .int (-1)])), ((ad 57), .inr (1, [.ref (ad 67), .int 0, .int 0, .int (-1)]))]) sz) (gx_Pi (fun r => r = (gs_status wv))) 0 0 gx_No := by
  refine gx_metP (by decide) (Nat.le_of_ble_eq_true rfl) ?_
  intro p e s m below meth c ls C hP hD hK hS hl
  obtain ⟨hx, hb, hr, hml, hown, hT, hlk, hin⟩ := id C
  have hown : s.vm.findClass RX6 = some m.cls := hown
  have hl : lv_has ls 2 [(0, .ref (ad 0)), (1, .int wv)] := hl
  refine lv_iload_n hx hb dX6_status_0 rfl (lv_at hl 1 rfl) ?_
  by_cases w_1 : wv = 0
  · subst w_1
    refine lv_tableIn (off := 51) (tgt := 52) hx hb dX6_status_1 (by decide) (by decide) (by decide) (by decide) ?_
    refine lv_aload_n hx hb dX6_status_52 rfl (lv_at hl 0 rfl) ?_
    refine va_get (D := D) (ci := 4) (v := .ref (ad 1)) (C := RX6) (T := TX6) (N := 10) hx hb hT iw_TX6 hown hK.1 hP 0 rfl rfl 0 (by decide) (hT _ wd_271) (fun _ h9 => h9) rfl dX6_status_53 ?_
    refine va_get (D := D) (ci := 0) (v := .int 0) (C := RX1) (T := TX1) (N := 17) hx hb hT iw_TX1 hown hK.1 hP 1 rfl rfl 9 (by decide) (hT _ wd_135) (fun _ h9 => h9) rfl dX6_status_56 ?_
    exact gx_retP C hS (by decide) dX6_status_59
  by_cases w_2 : wv = 1
  · subst w_2
    refine lv_tableIn (off := 59) (tgt := 60) hx hb dX6_status_1 (by decide) (by decide) (by decide) (by decide) ?_
    refine lv_aload_n hx hb dX6_status_60 rfl (lv_at hl 0 rfl) ?_
    refine va_get (D := D) (ci := 4) (v := .ref (ad 1)) (C := RX6) (T := TX6) (N := 10) hx hb hT iw_TX6 hown hK.1 hP 0 rfl rfl 0 (by decide) (hT _ wd_271) (fun _ h9 => h9) rfl dX6_status_61 ?_
    refine va_get (D := D) (ci := 0) (v := .int 0) (C := RX1) (T := TX1) (N := 17) hx hb hT iw_TX1 hown hK.1 hP 1 rfl rfl 10 (by decide) (hT _ wd_138) (fun _ h9 => h9) rfl dX6_status_64 ?_
    exact gx_retP C hS (by decide) dX6_status_67
  by_cases w_3 : wv = 2
  · subst w_3
    refine lv_tableIn (off := 67) (tgt := 68) hx hb dX6_status_1 (by decide) (by decide) (by decide) (by decide) ?_
    refine lv_aload_n hx hb dX6_status_68 rfl (lv_at hl 0 rfl) ?_
    refine va_get (D := D) (ci := 4) (v := .ref (ad 1)) (C := RX6) (T := TX6) (N := 10) hx hb hT iw_TX6 hown hK.1 hP 0 rfl rfl 0 (by decide) (hT _ wd_271) (fun _ h9 => h9) rfl dX6_status_69 ?_
    refine va_get (D := D) (ci := 0) (v := .int 0) (C := RX1) (T := TX1) (N := 17) hx hb hT iw_TX1 hown hK.1 hP 1 rfl rfl 11 (by decide) (hT _ wd_140) (fun _ h9 => h9) rfl dX6_status_72 ?_
    exact gx_retP C hS (by decide) dX6_status_75
  by_cases w_4 : wv = 3
  · subst w_4
    refine lv_tableIn (off := 75) (tgt := 76) hx hb dX6_status_1 (by decide) (by decide) (by decide) (by decide) ?_
    refine lv_aload_n hx hb dX6_status_76 rfl (lv_at hl 0 rfl) ?_
    refine va_get (D := D) (ci := 4) (v := .ref (ad 1)) (C := RX6) (T := TX6) (N := 10) hx hb hT iw_TX6 hown hK.1 hP 0 rfl rfl 0 (by decide) (hT _ wd_271) (fun _ h9 => h9) rfl dX6_status_77 ?_
    refine va_get (D := D) (ci := 0) (v := .int 0) (C := RX1) (T := TX1) (N := 17) hx hb hT iw_TX1 hown hK.1 hP 1 rfl rfl 12 (by decide) (hT _ wd_143) (fun _ h9 => h9) rfl dX6_status_80 ?_
    exact gx_retP C hS (by decide) dX6_status_83
  by_cases w_5 : wv = 4
  · subst w_5
    refine lv_tableIn (off := 83) (tgt := 84) hx hb dX6_status_1 (by decide) (by decide) (by decide) (by decide) ?_
    refine lv_aload_n hx hb dX6_status_84 rfl (lv_at hl 0 rfl) ?_
    refine va_get (D := D) (ci := 4) (v := .ref (ad 1)) (C := RX6) (T := TX6) (N := 10) hx hb hT iw_TX6 hown hK.1 hP 0 rfl rfl 0 (by decide) (hT _ wd_271) (fun _ h9 => h9) rfl dX6_status_85 ?_
    refine gx_pi hP hS (gx_runV (na := 0) (As := []) (rest := []) (ci := 0) C hl.1 hK (gx_subP (wc := ([((ad 1), .inr (0, [.ref (ad 10), .ref (ad 11), .ref (ad 12), .ref (ad 13), .ref (ad 14), .ref (ad 15), .ref (ad 16), .ref (ad 17), .ref (ad 18), .int 0, .int 0, .int 0, .int 0, .int 1, .int 0, .int 0, .int 0]))] : va_W)) hP [1] rfl) ((hD.sub (ws' := ([((ad 1), .inr (0, [.ref (ad 10), .ref (ad 11), .ref (ad 12), .ref (ad 13), .ref (ad 14), .ref (ad 15), .ref (ad 16), .ref (ad 17), .ref (ad 18), .int 0, .int 0, .int 0, .int 0, .int 1, .int 0, .int 0, .int 0]))] : va_W)) [1] (by decide) rfl).weaken (fun _ _ _ _ => trivial)) (k_goneInAll l D k (ad 1) (ad 10) (ad 11) (ad 12) (ad 13) (ad 14) (ad 15) (ad 16) (ad 17) (ad 18) _) gV_RX6_306 (by decide +kernel) rfl rfl ⟨Nat.le_of_ble_eq_true rfl, Nat.le_of_ble_eq_true rfl⟩ rfl rfl rfl rfl (Nat.le_of_ble_eq_true rfl) dX6_status_88 ⟨Nat.le_of_ble_eq_true rfl, Nat.le_of_ble_eq_true rfl⟩) (fun r_7 H locs c_6 hP hS => ?_)
    have c_6 : r_7 = 0 := c_6
    subst c_6
    exact gx_retP C hS (by decide) dX6_status_91
  by_cases w_8 : wv = 5
  · subst w_8
    refine lv_tableIn (off := 91) (tgt := 92) hx hb dX6_status_1 (by decide) (by decide) (by decide) (by decide) ?_
    refine lv_aload_n hx hb dX6_status_92 rfl (lv_at hl 0 rfl) ?_
    refine va_get (D := D) (ci := 4) (v := .ref (ad 4)) (C := RX6) (T := TX6) (N := 10) hx hb hT iw_TX6 hown hK.1 hP 0 rfl rfl 3 (by decide) (hT _ wd_274) (fun _ h9 => h9) rfl dX6_status_93 ?_
    refine va_get (D := D) (ci := 2) (v := .int 0) (C := RX4) (T := TX4) (N := 6) hx hb hT iw_TX4 hown hK.1 hP 2 rfl rfl 1 (by decide) (hT _ wd_197) (fun _ h9 => h9) rfl dX6_status_96 ?_
    exact gx_retP C hS (by decide) dX6_status_99
  by_cases w_9 : wv = 6
  · subst w_9
    refine lv_tableIn (off := 99) (tgt := 100) hx hb dX6_status_1 (by decide) (by decide) (by decide) (by decide) ?_
    refine lv_aload_n hx hb dX6_status_100 rfl (lv_at hl 0 rfl) ?_
    refine va_get (D := D) (ci := 4) (v := .ref (ad 1)) (C := RX6) (T := TX6) (N := 10) hx hb hT iw_TX6 hown hK.1 hP 0 rfl rfl 0 (by decide) (hT _ wd_271) (fun _ h9 => h9) rfl dX6_status_101 ?_
    refine va_get (D := D) (ci := 0) (v := .int 1) (C := RX1) (T := TX1) (N := 17) hx hb hT iw_TX1 hown hK.1 hP 1 rfl rfl 13 (by decide) (hT _ wd_145) (fun _ h9 => h9) rfl dX6_status_104 ?_
    exact gx_retP C hS (by decide) dX6_status_107
  by_cases w_10 : wv = 7
  · subst w_10
    refine lv_tableIn (off := 107) (tgt := 108) hx hb dX6_status_1 (by decide) (by decide) (by decide) (by decide) ?_
    refine lv_aload_n hx hb dX6_status_108 rfl (lv_at hl 0 rfl) ?_
    refine gx_pi hP hS (gx_runV (na := 0) (As := []) (rest := []) (ci := 4) C hl.1 hK (gx_subP (wc := ([((ad 0), .inr (4, [.ref (ad 1), .ref (ad 2), .ref (ad 3), .ref (ad 4), .ref (ad 5), .ref (ad 6), .ref (ad 7), .ref (ad 8), .ref (ad 9), .int 0])), ((ad 5), .inl (k 2, 8, .inr (.inr (.inr (.inr fs))))), ((ad 50), .inr (1, [.ref (ad 60), .int 0, .int 0, .int (-1)])), ((ad 51), .inr (1, [.ref (ad 61), .int 0, .int 0, .int (-1)])), ((ad 52), .inr (1, [.ref (ad 62), .int 0, .int 0, .int (-1)])), ((ad 53), .inr (1, [.ref (ad 63), .int 0, .int 0, .int (-1)])), ((ad 54), .inr (1, [.ref (ad 64), .int 0, .int 0, .int (-1)])), ((ad 55), .inr (1, [.ref (ad 65), .int 0, .int 0, .int (-1)])), ((ad 56), .inr (1, [.ref (ad 66), .int 0, .int 0, .int (-1)])), ((ad 57), .inr (1, [.ref (ad 67), .int 0, .int 0, .int (-1)]))] : va_W)) hP [0, 4, 5, 6, 7, 8, 9, 10, 11, 12] rfl) ((hD.sub (ws' := ([((ad 0), .inr (4, [.ref (ad 1), .ref (ad 2), .ref (ad 3), .ref (ad 4), .ref (ad 5), .ref (ad 6), .ref (ad 7), .ref (ad 8), .ref (ad 9), .int 0])), ((ad 5), .inl (k 2, 8, .inr (.inr (.inr (.inr fs))))), ((ad 50), .inr (1, [.ref (ad 60), .int 0, .int 0, .int (-1)])), ((ad 51), .inr (1, [.ref (ad 61), .int 0, .int 0, .int (-1)])), ((ad 52), .inr (1, [.ref (ad 62), .int 0, .int 0, .int (-1)])), ((ad 53), .inr (1, [.ref (ad 63), .int 0, .int 0, .int (-1)])), ((ad 54), .inr (1, [.ref (ad 64), .int 0, .int 0, .int (-1)])), ((ad 55), .inr (1, [.ref (ad 65), .int 0, .int 0, .int (-1)])), ((ad 56), .inr (1, [.ref (ad 66), .int 0, .int 0, .int (-1)])), ((ad 57), .inr (1, [.ref (ad 67), .int 0, .int 0, .int (-1)]))] : va_W)) [0, 4, 5, 6, 7, 8, 9, 10, 11, 12] (by decide) rfl).weaken (fun _ _ _ _ => trivial)) (k_filled l D k ad fs hfs _) gV_RX6_309 (by decide +kernel) rfl rfl ⟨Nat.le_of_ble_eq_true rfl, Nat.le_of_ble_eq_true rfl⟩ rfl rfl rfl rfl (Nat.le_of_ble_eq_true rfl) dX6_status_109 ⟨Nat.le_of_ble_eq_true rfl, Nat.le_of_ble_eq_true rfl⟩) (fun r_12 H locs c_11 hP hS => ?_)
    have c_11 : r_12 = 0 := c_11
    subst c_11
    exact gx_retP C hS (by decide) dX6_status_112
  by_cases w_13 : wv = 8
  · subst w_13
    refine lv_tableIn (off := 112) (tgt := 113) hx hb dX6_status_1 (by decide) (by decide) (by decide) (by decide) ?_
    refine lv_aload_n hx hb dX6_status_113 rfl (lv_at hl 0 rfl) ?_
    refine va_get (D := D) (ci := 4) (v := .ref (ad 1)) (C := RX6) (T := TX6) (N := 10) hx hb hT iw_TX6 hown hK.1 hP 0 rfl rfl 0 (by decide) (hT _ wd_271) (fun _ h9 => h9) rfl dX6_status_114 ?_
    refine va_get (D := D) (ci := 0) (v := .int 0) (C := RX1) (T := TX1) (N := 17) hx hb hT iw_TX1 hown hK.1 hP 1 rfl rfl 14 (by decide) (hT _ wd_148) (fun _ h9 => h9) rfl dX6_status_117 ?_
    refine gx_pi hP hS (gx_runS (na := 1) (As := [.int 0]) (rest := []) C hl.1 hK (gx_subP (wc := ([] : va_W)) hP [] rfl) ((hD.sub (ws' := ([] : va_W)) [] (by decide) rfl).weaken (fun _ _ _ _ => trivial)) (k_bitCount0 l D k _) gS_RX6_247 (by decide +kernel) rfl rfl ⟨Nat.le_of_ble_eq_true rfl, Nat.le_of_ble_eq_true rfl⟩ rfl rfl (Nat.le_of_ble_eq_true rfl) dX6_status_120 ⟨Nat.le_of_ble_eq_true rfl, Nat.le_of_ble_eq_true rfl⟩) (fun r_15 H locs c_14 hP hS => ?_)
    have c_14 : r_15 = 0 := c_14
    subst c_14
    exact gx_retP C hS (by decide) dX6_status_123
  refine lv_tableOut (tgt := 124) hx hb dX6_status_1 (gx_out9 w_1 w_2 w_3 w_4 w_5 w_8 w_9 w_10 w_13) (by decide) ?_
  refine lv_iload_n hx hb dX6_status_124 rfl (lv_at hl 1 rfl) ?_
  refine lv_bipush (v := 12) hx hb dX6_status_125 (by decide) ?_
  refine lv_bipush (v := 16) hx hb dX6_status_127 (by decide) ?_
  refine gx_pi hP hS (gx_runS (na := 3) (As := [.int wv, .int 12, .int 16]) (rest := []) C hl.1 hK (gx_subP (wc := ([] : va_W)) hP [] rfl) ((hD.sub (ws' := ([] : va_W)) [] (by decide) rfl).weaken (fun _ _ _ _ => trivial)) (k_isBetween l D k wv 12 16 _) gS_RX6_57 (by decide +kernel) rfl rfl ⟨Nat.le_of_ble_eq_true rfl, Nat.le_of_ble_eq_true rfl⟩ rfl rfl (Nat.le_of_ble_eq_true rfl) dX6_status_129 ⟨Nat.le_of_ble_eq_true rfl, Nat.le_of_ble_eq_true rfl⟩) (fun r_17 H locs pc_16 hP hS => ?_)
  have oc_16 : r_17 = 1 ∧ gx_b wv 12 16 = true ∨ r_17 = 0 ∧ gx_b wv 12 16 = false := pc_16
  clear pc_16
  rcases oc_16 with ⟨rfl, c_16⟩ | ⟨rfl, c_16⟩
  · refine lv_if_eq (tgt := 147) hx hb dX6_status_132 (by decide) (fun c_18 => absurd c_18 (by decide)) (fun c_18 => ?_)
    refine lv_aload_n hx hb dX6_status_135 rfl (lv_at hl 0 rfl) ?_
    refine va_get (D := D) (ci := 4) (v := .ref (ad 9)) (C := RX6) (T := TX6) (N := 10) hx hb hT iw_TX6 hown hK.1 hP 0 rfl rfl 8 (by decide) (hT _ wd_279) (fun _ h9 => h9) rfl dX6_status_136 ?_
    refine lv_iload_n hx hb dX6_status_139 rfl (lv_at hl 1 rfl) ?_
    refine lv_bipush (v := 12) hx hb dX6_status_140 (by decide) ?_
    refine lv_isub hx hb dX6_status_142 ?_
    refine va_iald hx hb hK.1 hP 3 0 rfl rfl (gx_v12 c_16) dX6_status_143 ?_
    refine gx_cst (v := 0) (rfl) ?_
    refine lv_goto (tgt := 148) hx hb dX6_status_144 (by decide) ?_
    exact gx_retP C hS (by simp [gs_status, w_9, gx_b08 w_1 w_2 w_3 w_4 w_5 w_8 w_9 w_10 w_13, c_16]) dX6_status_148
  · refine lv_if_eq (tgt := 147) hx hb dX6_status_132 (by decide) (fun c_19 => ?_) (fun c_19 => absurd (by decide) c_19)
    refine lv_iconst (v := (-1)) hx hb dX6_status_147 (by decide) ?_
    exact gx_retP C hS (by simp [gs_status, w_9, gx_b08 w_1 w_2 w_3 w_4 w_5 w_8 w_9 w_10 w_13, c_16]) dX6_status_148
end
