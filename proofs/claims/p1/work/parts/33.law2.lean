theorem wd_646 : Cond.methodLink "EachRoadOnceLaw" 88 yX6_when ∈ gx_T := gx_in (List.mem_of_getElem? (i := 646) (by decide +kernel)) (by decide +kernel)
theorem wd_647 : Cond.instanceMethod yX6_when ∈ gx_T := gx_in (List.mem_of_getElem? (i := 647) (by decide +kernel)) (by decide +kernel)
theorem wd_648 : Cond.selects RX6 yX6_when yX6_when ∈ gx_T := gx_in (List.mem_of_getElem? (i := 648) (by decide +kernel)) (by decide +kernel)
theorem wd_649 : Cond.code yX6_when cX6_when 3 (some .int) ∈ gx_T := gx_in (List.mem_of_getElem? (i := 649) (by decide +kernel)) (by decide +kernel)
theorem wd_651 : Cond.methodLink "EachRoadOnceLaw" 92 yX6_left ∈ gx_T := gx_in (List.mem_of_getElem? (i := 651) (by decide +kernel)) (by decide +kernel)
theorem wd_652 : Cond.instanceMethod yX6_left ∈ gx_T := gx_in (List.mem_of_getElem? (i := 652) (by decide +kernel)) (by decide +kernel)
theorem wd_653 : Cond.selects RX6 yX6_left yX6_left ∈ gx_T := gx_in (List.mem_of_getElem? (i := 653) (by decide +kernel)) (by decide +kernel)
theorem wd_654 : Cond.code yX6_left cX6_left 2 (some .int) ∈ gx_T := gx_in (List.mem_of_getElem? (i := 654) (by decide +kernel)) (by decide +kernel)
theorem wd_656 : Cond.methodLink "EachRoadOnceLaw" 96 yX6_here ∈ gx_T := gx_in (List.mem_of_getElem? (i := 656) (by decide +kernel)) (by decide +kernel)
theorem wd_657 : Cond.instanceMethod yX6_here ∈ gx_T := gx_in (List.mem_of_getElem? (i := 657) (by decide +kernel)) (by decide +kernel)
theorem wd_658 : Cond.selects RX6 yX6_here yX6_here ∈ gx_T := gx_in (List.mem_of_getElem? (i := 658) (by decide +kernel)) (by decide +kernel)
theorem wd_659 : Cond.code yX6_here cX6_here 2 (some .int) ∈ gx_T := gx_in (List.mem_of_getElem? (i := 659) (by decide +kernel)) (by decide +kernel)
theorem wd_661 : Cond.methodLink "EachRoadOnceLaw" 100 yX6_reach ∈ gx_T := gx_in (List.mem_of_getElem? (i := 661) (by decide +kernel)) (by decide +kernel)
theorem wd_662 : Cond.instanceMethod yX6_reach ∈ gx_T := gx_in (List.mem_of_getElem? (i := 662) (by decide +kernel)) (by decide +kernel)
theorem wd_663 : Cond.selects RX6 yX6_reach yX6_reach ∈ gx_T := gx_in (List.mem_of_getElem? (i := 663) (by decide +kernel)) (by decide +kernel)
theorem wd_664 : Cond.code yX6_reach cX6_reach 2 (some .int) ∈ gx_T := gx_in (List.mem_of_getElem? (i := 664) (by decide +kernel)) (by decide +kernel)
theorem wd_669 : Cond.methodLink "EachRoadOnceLaw" 104 yX6_safe ∈ gx_T := gx_in (List.mem_of_getElem? (i := 669) (by decide +kernel)) (by decide +kernel)
theorem wd_670 : Cond.instanceMethod yX6_safe ∈ gx_T := gx_in (List.mem_of_getElem? (i := 670) (by decide +kernel)) (by decide +kernel)
theorem wd_671 : Cond.selects RX6 yX6_safe yX6_safe ∈ gx_T := gx_in (List.mem_of_getElem? (i := 671) (by decide +kernel)) (by decide +kernel)
theorem wd_672 : Cond.code yX6_safe cX6_safe 2 (some .int) ∈ gx_T := gx_in (List.mem_of_getElem? (i := 672) (by decide +kernel)) (by decide +kernel)
theorem wd_678 : Cond.methodLink "EachRoadOnceLaw" 108 yX6_go ∈ gx_T := gx_in (List.mem_of_getElem? (i := 678) (by decide +kernel)) (by decide +kernel)
theorem wd_679 : Cond.instanceMethod yX6_go ∈ gx_T := gx_in (List.mem_of_getElem? (i := 679) (by decide +kernel)) (by decide +kernel)
theorem wd_680 : Cond.selects RX6 yX6_go yX6_go ∈ gx_T := gx_in (List.mem_of_getElem? (i := 680) (by decide +kernel)) (by decide +kernel)
theorem wd_681 : Cond.code yX6_go cX6_go 3 (some .int) ∈ gx_T := gx_in (List.mem_of_getElem? (i := 681) (by decide +kernel)) (by decide +kernel)
theorem wd_687 : Cond.methodLink "EachRoadOnceLaw" 112 yX6_year ∈ gx_T := gx_in (List.mem_of_getElem? (i := 687) (by decide +kernel)) (by decide +kernel)
theorem wd_688 : Cond.instanceMethod yX6_year ∈ gx_T := gx_in (List.mem_of_getElem? (i := 688) (by decide +kernel)) (by decide +kernel)
theorem wd_689 : Cond.selects RX6 yX6_year yX6_year ∈ gx_T := gx_in (List.mem_of_getElem? (i := 689) (by decide +kernel)) (by decide +kernel)
theorem wd_690 : Cond.code yX6_year cX6_year 1 (some .int) ∈ gx_T := gx_in (List.mem_of_getElem? (i := 690) (by decide +kernel)) (by decide +kernel)
theorem wd_691 : Cond.methodLink "EachRoadOnceLaw" 116 yX6_next ∈ gx_T := gx_in (List.mem_of_getElem? (i := 691) (by decide +kernel)) (by decide +kernel)
theorem wd_692 : Cond.instanceMethod yX6_next ∈ gx_T := gx_in (List.mem_of_getElem? (i := 692) (by decide +kernel)) (by decide +kernel)
theorem wd_693 : Cond.selects RX6 yX6_next yX6_next ∈ gx_T := gx_in (List.mem_of_getElem? (i := 693) (by decide +kernel)) (by decide +kernel)
theorem wd_694 : Cond.code yX6_next cX6_next 4 (some .int) ∈ gx_T := gx_in (List.mem_of_getElem? (i := 694) (by decide +kernel)) (by decide +kernel)
theorem wd_1253 : Cond.methodLink "EachRoadOnceLaw" 91 yX7_when ∈ gx_T := gx_in (List.mem_of_getElem? (i := 1253) (by decide +kernel)) (by decide +kernel)
theorem wd_1254 : Cond.instanceMethod yX7_when ∈ gx_T := gx_in (List.mem_of_getElem? (i := 1254) (by decide +kernel)) (by decide +kernel)
theorem wd_1255 : Cond.selects RX7 yX7_when yX7_when ∈ gx_T := gx_in (List.mem_of_getElem? (i := 1255) (by decide +kernel)) (by decide +kernel)
theorem wd_1256 : Cond.code yX7_when cX7_when 3 (some .int) ∈ gx_T := gx_in (List.mem_of_getElem? (i := 1256) (by decide +kernel)) (by decide +kernel)
theorem wd_1257 : Cond.methodLink "EachRoadOnceLaw" 95 yX7_left ∈ gx_T := gx_in (List.mem_of_getElem? (i := 1257) (by decide +kernel)) (by decide +kernel)
theorem wd_1258 : Cond.instanceMethod yX7_left ∈ gx_T := gx_in (List.mem_of_getElem? (i := 1258) (by decide +kernel)) (by decide +kernel)
theorem wd_1259 : Cond.selects RX7 yX7_left yX7_left ∈ gx_T := gx_in (List.mem_of_getElem? (i := 1259) (by decide +kernel)) (by decide +kernel)
theorem wd_1260 : Cond.code yX7_left cX7_left 2 (some .int) ∈ gx_T := gx_in (List.mem_of_getElem? (i := 1260) (by decide +kernel)) (by decide +kernel)
theorem wd_1261 : Cond.methodLink "EachRoadOnceLaw" 99 yX7_here ∈ gx_T := gx_in (List.mem_of_getElem? (i := 1261) (by decide +kernel)) (by decide +kernel)
theorem wd_1262 : Cond.instanceMethod yX7_here ∈ gx_T := gx_in (List.mem_of_getElem? (i := 1262) (by decide +kernel)) (by decide +kernel)
theorem wd_1263 : Cond.selects RX7 yX7_here yX7_here ∈ gx_T := gx_in (List.mem_of_getElem? (i := 1263) (by decide +kernel)) (by decide +kernel)
theorem wd_1264 : Cond.code yX7_here cX7_here 2 (some .int) ∈ gx_T := gx_in (List.mem_of_getElem? (i := 1264) (by decide +kernel)) (by decide +kernel)
theorem wd_1265 : Cond.methodLink "EachRoadOnceLaw" 103 yX7_reach ∈ gx_T := gx_in (List.mem_of_getElem? (i := 1265) (by decide +kernel)) (by decide +kernel)
theorem wd_1266 : Cond.instanceMethod yX7_reach ∈ gx_T := gx_in (List.mem_of_getElem? (i := 1266) (by decide +kernel)) (by decide +kernel)
theorem wd_1267 : Cond.selects RX7 yX7_reach yX7_reach ∈ gx_T := gx_in (List.mem_of_getElem? (i := 1267) (by decide +kernel)) (by decide +kernel)
theorem wd_1268 : Cond.code yX7_reach cX7_reach 2 (some .int) ∈ gx_T := gx_in (List.mem_of_getElem? (i := 1268) (by decide +kernel)) (by decide +kernel)
theorem wd_1269 : Cond.methodLink "EachRoadOnceLaw" 107 yX7_safe ∈ gx_T := gx_in (List.mem_of_getElem? (i := 1269) (by decide +kernel)) (by decide +kernel)
theorem wd_1270 : Cond.instanceMethod yX7_safe ∈ gx_T := gx_in (List.mem_of_getElem? (i := 1270) (by decide +kernel)) (by decide +kernel)
theorem wd_1271 : Cond.selects RX7 yX7_safe yX7_safe ∈ gx_T := gx_in (List.mem_of_getElem? (i := 1271) (by decide +kernel)) (by decide +kernel)
theorem wd_1272 : Cond.code yX7_safe cX7_safe 2 (some .int) ∈ gx_T := gx_in (List.mem_of_getElem? (i := 1272) (by decide +kernel)) (by decide +kernel)
theorem wd_1277 : Cond.methodLink "EachRoadOnceLaw" 111 yX7_go ∈ gx_T := gx_in (List.mem_of_getElem? (i := 1277) (by decide +kernel)) (by decide +kernel)
theorem wd_1278 : Cond.instanceMethod yX7_go ∈ gx_T := gx_in (List.mem_of_getElem? (i := 1278) (by decide +kernel)) (by decide +kernel)
theorem wd_1279 : Cond.selects RX7 yX7_go yX7_go ∈ gx_T := gx_in (List.mem_of_getElem? (i := 1279) (by decide +kernel)) (by decide +kernel)
theorem wd_1280 : Cond.code yX7_go cX7_go 3 (some .int) ∈ gx_T := gx_in (List.mem_of_getElem? (i := 1280) (by decide +kernel)) (by decide +kernel)
theorem wd_1285 : Cond.methodLink "EachRoadOnceLaw" 115 yX7_year ∈ gx_T := gx_in (List.mem_of_getElem? (i := 1285) (by decide +kernel)) (by decide +kernel)
theorem wd_1286 : Cond.instanceMethod yX7_year ∈ gx_T := gx_in (List.mem_of_getElem? (i := 1286) (by decide +kernel)) (by decide +kernel)
theorem wd_1287 : Cond.selects RX7 yX7_year yX7_year ∈ gx_T := gx_in (List.mem_of_getElem? (i := 1287) (by decide +kernel)) (by decide +kernel)
theorem wd_1288 : Cond.code yX7_year cX7_year 1 (some .int) ∈ gx_T := gx_in (List.mem_of_getElem? (i := 1288) (by decide +kernel)) (by decide +kernel)
theorem wd_1289 : Cond.methodLink "EachRoadOnceLaw" 119 yX7_next ∈ gx_T := gx_in (List.mem_of_getElem? (i := 1289) (by decide +kernel)) (by decide +kernel)
theorem wd_1290 : Cond.instanceMethod yX7_next ∈ gx_T := gx_in (List.mem_of_getElem? (i := 1290) (by decide +kernel)) (by decide +kernel)
theorem wd_1291 : Cond.selects RX7 yX7_next yX7_next ∈ gx_T := gx_in (List.mem_of_getElem? (i := 1291) (by decide +kernel)) (by decide +kernel)
theorem wd_1292 : Cond.code yX7_next cX7_next 4 (some .int) ∈ gx_T := gx_in (List.mem_of_getElem? (i := 1292) (by decide +kernel)) (by decide +kernel)
theorem gV_R_law_88 : GoodIn gx_T (wsV R_law 88 RX6 yX6_when (.code yX6_when cX6_when 3 (some .int) :: gx_T)) := gx_gV wd_646 wd_647 wd_648 wd_69 wd_649
theorem gV_R_law_91 : GoodIn gx_T (wsV R_law 91 RX7 yX7_when (.code yX7_when cX7_when 3 (some .int) :: gx_T)) := gx_gV wd_1253 wd_1254 wd_1255 wd_75 wd_1256
theorem gV_R_law_92 : GoodIn gx_T (wsV R_law 92 RX6 yX6_left (.code yX6_left cX6_left 2 (some .int) :: gx_T)) := gx_gV wd_651 wd_652 wd_653 wd_69 wd_654
theorem gV_R_law_95 : GoodIn gx_T (wsV R_law 95 RX7 yX7_left (.code yX7_left cX7_left 2 (some .int) :: gx_T)) := gx_gV wd_1257 wd_1258 wd_1259 wd_75 wd_1260
theorem gV_R_law_96 : GoodIn gx_T (wsV R_law 96 RX6 yX6_here (.code yX6_here cX6_here 2 (some .int) :: gx_T)) := gx_gV wd_656 wd_657 wd_658 wd_69 wd_659
theorem gV_R_law_99 : GoodIn gx_T (wsV R_law 99 RX7 yX7_here (.code yX7_here cX7_here 2 (some .int) :: gx_T)) := gx_gV wd_1261 wd_1262 wd_1263 wd_75 wd_1264
theorem gV_R_law_100 : GoodIn gx_T (wsV R_law 100 RX6 yX6_reach (.code yX6_reach cX6_reach 2 (some .int) :: gx_T)) := gx_gV wd_661 wd_662 wd_663 wd_69 wd_664
theorem gV_R_law_103 : GoodIn gx_T (wsV R_law 103 RX7 yX7_reach (.code yX7_reach cX7_reach 2 (some .int) :: gx_T)) := gx_gV wd_1265 wd_1266 wd_1267 wd_75 wd_1268
theorem gV_R_law_104 : GoodIn gx_T (wsV R_law 104 RX6 yX6_safe (.code yX6_safe cX6_safe 2 (some .int) :: gx_T)) := gx_gV wd_669 wd_670 wd_671 wd_69 wd_672
theorem gV_R_law_107 : GoodIn gx_T (wsV R_law 107 RX7 yX7_safe (.code yX7_safe cX7_safe 2 (some .int) :: gx_T)) := gx_gV wd_1269 wd_1270 wd_1271 wd_75 wd_1272
theorem gV_R_law_108 : GoodIn gx_T (wsV R_law 108 RX6 yX6_go (.code yX6_go cX6_go 3 (some .int) :: gx_T)) := gx_gV wd_678 wd_679 wd_680 wd_69 wd_681
theorem gV_R_law_111 : GoodIn gx_T (wsV R_law 111 RX7 yX7_go (.code yX7_go cX7_go 3 (some .int) :: gx_T)) := gx_gV wd_1277 wd_1278 wd_1279 wd_75 wd_1280
theorem gV_R_law_112 : GoodIn gx_T (wsV R_law 112 RX6 yX6_year (.code yX6_year cX6_year 1 (some .int) :: gx_T)) := gx_gV wd_687 wd_688 wd_689 wd_69 wd_690
theorem gV_R_law_115 : GoodIn gx_T (wsV R_law 115 RX7 yX7_year (.code yX7_year cX7_year 1 (some .int) :: gx_T)) := gx_gV wd_1285 wd_1286 wd_1287 wd_75 wd_1288
theorem gV_R_law_116 : GoodIn gx_T (wsV R_law 116 RX6 yX6_next (.code yX6_next cX6_next 4 (some .int) :: gx_T)) := gx_gV wd_691 wd_692 wd_693 wd_69 wd_694
theorem gV_R_law_119 : GoodIn gx_T (wsV R_law 119 RX7 yX7_next (.code yX7_next cX7_next 4 (some .int) :: gx_T)) := gx_gV wd_1289 wd_1290 wd_1291 wd_75 wd_1292
theorem dL_law_837 : decode code 837 = .ok (.aload_n 1, 1) := by decide +kernel
theorem dL_law_838 : decode code 838 = .ok (.aload_n 0, 1) := by decide +kernel
theorem dL_law_839 : decode code 839 = .ok (.iload_n 3, 1) := by decide +kernel
theorem dL_law_840 : decode code 840 = .ok (.iconst 1, 1) := by decide +kernel
theorem dL_law_841 : decode code 841 = .ok (.iadd, 1) := by decide +kernel
theorem dL_law_842 : decode code 842 = .ok (.iaload, 1) := by decide +kernel
theorem dL_law_843 : decode code 843 = .ok (.aload_n 0, 1) := by decide +kernel
theorem dL_law_844 : decode code 844 = .ok (.iload_n 3, 1) := by decide +kernel
theorem dL_law_845 : decode code 845 = .ok (.iconst 2, 1) := by decide +kernel
theorem dL_law_846 : decode code 846 = .ok (.iadd, 1) := by decide +kernel
theorem dL_law_847 : decode code 847 = .ok (.iaload, 1) := by decide +kernel
theorem dL_law_848 : decode code 848 = .ok (.invokevirtual 88, 3) := by decide +kernel
theorem dL_law_851 : decode code 851 = .ok (.aload_n 2, 1) := by decide +kernel
theorem dL_law_852 : decode code 852 = .ok (.aload_n 0, 1) := by decide +kernel
theorem dL_law_853 : decode code 853 = .ok (.iload_n 3, 1) := by decide +kernel
theorem dL_law_854 : decode code 854 = .ok (.iconst 1, 1) := by decide +kernel
theorem dL_law_855 : decode code 855 = .ok (.iadd, 1) := by decide +kernel
theorem dL_law_856 : decode code 856 = .ok (.iaload, 1) := by decide +kernel
theorem dL_law_857 : decode code 857 = .ok (.aload_n 0, 1) := by decide +kernel
theorem dL_law_858 : decode code 858 = .ok (.iload_n 3, 1) := by decide +kernel
theorem dL_law_859 : decode code 859 = .ok (.iconst 2, 1) := by decide +kernel
theorem dL_law_860 : decode code 860 = .ok (.iadd, 1) := by decide +kernel
theorem dL_law_861 : decode code 861 = .ok (.iaload, 1) := by decide +kernel
theorem dL_law_862 : decode code 862 = .ok (.invokevirtual 91, 3) := by decide +kernel
theorem dL_law_865 : decode code 865 = .ok (.if_icmp .eq 941, 3) := by decide +kernel
theorem dL_law_870 : decode code 870 = .ok (.aload_n 1, 1) := by decide +kernel
theorem dL_law_871 : decode code 871 = .ok (.aload_n 0, 1) := by decide +kernel
theorem dL_law_872 : decode code 872 = .ok (.iload_n 3, 1) := by decide +kernel
theorem dL_law_873 : decode code 873 = .ok (.iconst 1, 1) := by decide +kernel
theorem dL_law_874 : decode code 874 = .ok (.iadd, 1) := by decide +kernel
theorem dL_law_875 : decode code 875 = .ok (.iaload, 1) := by decide +kernel
theorem dL_law_876 : decode code 876 = .ok (.invokevirtual 92, 3) := by decide +kernel
theorem dL_law_879 : decode code 879 = .ok (.aload_n 2, 1) := by decide +kernel
theorem dL_law_880 : decode code 880 = .ok (.aload_n 0, 1) := by decide +kernel
theorem dL_law_881 : decode code 881 = .ok (.iload_n 3, 1) := by decide +kernel
theorem dL_law_882 : decode code 882 = .ok (.iconst 1, 1) := by decide +kernel
theorem dL_law_883 : decode code 883 = .ok (.iadd, 1) := by decide +kernel
theorem dL_law_884 : decode code 884 = .ok (.iaload, 1) := by decide +kernel
theorem dL_law_885 : decode code 885 = .ok (.invokevirtual 95, 3) := by decide +kernel
theorem dL_law_888 : decode code 888 = .ok (.if_icmp .eq 918, 3) := by decide +kernel
theorem dL_law_893 : decode code 893 = .ok (.aload_n 1, 1) := by decide +kernel
theorem dL_law_894 : decode code 894 = .ok (.aload_n 0, 1) := by decide +kernel
theorem dL_law_895 : decode code 895 = .ok (.iload_n 3, 1) := by decide +kernel
theorem dL_law_896 : decode code 896 = .ok (.iconst 1, 1) := by decide +kernel
theorem dL_law_897 : decode code 897 = .ok (.iadd, 1) := by decide +kernel
theorem dL_law_898 : decode code 898 = .ok (.iaload, 1) := by decide +kernel
theorem dL_law_899 : decode code 899 = .ok (.invokevirtual 96, 3) := by decide +kernel
theorem dL_law_902 : decode code 902 = .ok (.aload_n 2, 1) := by decide +kernel
theorem dL_law_903 : decode code 903 = .ok (.aload_n 0, 1) := by decide +kernel
theorem dL_law_904 : decode code 904 = .ok (.iload_n 3, 1) := by decide +kernel
theorem dL_law_905 : decode code 905 = .ok (.iconst 1, 1) := by decide +kernel
theorem dL_law_906 : decode code 906 = .ok (.iadd, 1) := by decide +kernel
theorem dL_law_907 : decode code 907 = .ok (.iaload, 1) := by decide +kernel
theorem dL_law_908 : decode code 908 = .ok (.invokevirtual 99, 3) := by decide +kernel
theorem dL_law_911 : decode code 911 = .ok (.if_icmp .eq 895, 3) := by decide +kernel
theorem dL_law_916 : decode code 916 = .ok (.aload_n 1, 1) := by decide +kernel
theorem dL_law_917 : decode code 917 = .ok (.aload_n 0, 1) := by decide +kernel
theorem dL_law_918 : decode code 918 = .ok (.iload_n 3, 1) := by decide +kernel
theorem dL_law_919 : decode code 919 = .ok (.iconst 1, 1) := by decide +kernel
theorem dL_law_920 : decode code 920 = .ok (.iadd, 1) := by decide +kernel
theorem dL_law_921 : decode code 921 = .ok (.iaload, 1) := by decide +kernel
theorem dL_law_922 : decode code 922 = .ok (.invokevirtual 100, 3) := by decide +kernel
theorem dL_law_925 : decode code 925 = .ok (.aload_n 2, 1) := by decide +kernel
theorem dL_law_926 : decode code 926 = .ok (.aload_n 0, 1) := by decide +kernel
theorem dL_law_927 : decode code 927 = .ok (.iload_n 3, 1) := by decide +kernel
theorem dL_law_928 : decode code 928 = .ok (.iconst 1, 1) := by decide +kernel
theorem dL_law_929 : decode code 929 = .ok (.iadd, 1) := by decide +kernel
theorem dL_law_930 : decode code 930 = .ok (.iaload, 1) := by decide +kernel
theorem dL_law_931 : decode code 931 = .ok (.invokevirtual 103, 3) := by decide +kernel
theorem dL_law_934 : decode code 934 = .ok (.if_icmp .eq 872, 3) := by decide +kernel
theorem dL_law_939 : decode code 939 = .ok (.aload_n 1, 1) := by decide +kernel
theorem dL_law_940 : decode code 940 = .ok (.aload_n 0, 1) := by decide +kernel
theorem dL_law_941 : decode code 941 = .ok (.iload_n 3, 1) := by decide +kernel
theorem dL_law_942 : decode code 942 = .ok (.iconst 1, 1) := by decide +kernel
theorem dL_law_943 : decode code 943 = .ok (.iadd, 1) := by decide +kernel
theorem dL_law_944 : decode code 944 = .ok (.iaload, 1) := by decide +kernel
theorem dL_law_945 : decode code 945 = .ok (.invokevirtual 104, 3) := by decide +kernel
theorem dL_law_948 : decode code 948 = .ok (.aload_n 2, 1) := by decide +kernel
theorem dL_law_949 : decode code 949 = .ok (.aload_n 0, 1) := by decide +kernel
theorem dL_law_950 : decode code 950 = .ok (.iload_n 3, 1) := by decide +kernel
theorem dL_law_951 : decode code 951 = .ok (.iconst 1, 1) := by decide +kernel
theorem dL_law_952 : decode code 952 = .ok (.iadd, 1) := by decide +kernel
theorem dL_law_953 : decode code 953 = .ok (.iaload, 1) := by decide +kernel
theorem dL_law_954 : decode code 954 = .ok (.invokevirtual 107, 3) := by decide +kernel
theorem dL_law_957 : decode code 957 = .ok (.if_icmp .eq 849, 3) := by decide +kernel
theorem dL_law_962 : decode code 962 = .ok (.aload_n 1, 1) := by decide +kernel
theorem dL_law_963 : decode code 963 = .ok (.aload_n 0, 1) := by decide +kernel
theorem dL_law_964 : decode code 964 = .ok (.iload_n 3, 1) := by decide +kernel
theorem dL_law_965 : decode code 965 = .ok (.iconst 1, 1) := by decide +kernel
theorem dL_law_966 : decode code 966 = .ok (.iadd, 1) := by decide +kernel
theorem dL_law_967 : decode code 967 = .ok (.iaload, 1) := by decide +kernel
theorem dL_law_968 : decode code 968 = .ok (.aload_n 0, 1) := by decide +kernel
theorem dL_law_969 : decode code 969 = .ok (.iload_n 3, 1) := by decide +kernel
theorem dL_law_970 : decode code 970 = .ok (.iconst 2, 1) := by decide +kernel
theorem dL_law_971 : decode code 971 = .ok (.iadd, 1) := by decide +kernel
theorem dL_law_972 : decode code 972 = .ok (.iaload, 1) := by decide +kernel
theorem dL_law_973 : decode code 973 = .ok (.invokevirtual 108, 3) := by decide +kernel
theorem dL_law_976 : decode code 976 = .ok (.aload_n 2, 1) := by decide +kernel
theorem dL_law_977 : decode code 977 = .ok (.aload_n 0, 1) := by decide +kernel
theorem dL_law_978 : decode code 978 = .ok (.iload_n 3, 1) := by decide +kernel
theorem dL_law_979 : decode code 979 = .ok (.iconst 1, 1) := by decide +kernel
theorem dL_law_980 : decode code 980 = .ok (.iadd, 1) := by decide +kernel
theorem dL_law_981 : decode code 981 = .ok (.iaload, 1) := by decide +kernel
theorem dL_law_982 : decode code 982 = .ok (.aload_n 0, 1) := by decide +kernel
theorem dL_law_983 : decode code 983 = .ok (.iload_n 3, 1) := by decide +kernel
theorem dL_law_984 : decode code 984 = .ok (.iconst 2, 1) := by decide +kernel
theorem dL_law_985 : decode code 985 = .ok (.iadd, 1) := by decide +kernel
theorem dL_law_986 : decode code 986 = .ok (.iaload, 1) := by decide +kernel
theorem dL_law_987 : decode code 987 = .ok (.invokevirtual 111, 3) := by decide +kernel
theorem dL_law_990 : decode code 990 = .ok (.if_icmp .eq 816, 3) := by decide +kernel
theorem dL_law_995 : decode code 995 = .ok (.aload_n 1, 1) := by decide +kernel
theorem dL_law_996 : decode code 996 = .ok (.invokevirtual 112, 3) := by decide +kernel
theorem dL_law_999 : decode code 999 = .ok (.aload_n 2, 1) := by decide +kernel
theorem dL_law_1000 : decode code 1000 = .ok (.invokevirtual 115, 3) := by decide +kernel
theorem dL_law_1003 : decode code 1003 = .ok (.if_icmp .eq 803, 3) := by decide +kernel
theorem dL_law_1008 : decode code 1008 = .ok (.aload_n 1, 1) := by decide +kernel
theorem dL_law_1009 : decode code 1009 = .ok (.aload_n 0, 1) := by decide +kernel
theorem dL_law_1010 : decode code 1010 = .ok (.iload_n 3, 1) := by decide +kernel
theorem dL_law_1011 : decode code 1011 = .ok (.iconst 1, 1) := by decide +kernel
theorem dL_law_1012 : decode code 1012 = .ok (.iadd, 1) := by decide +kernel
theorem dL_law_1013 : decode code 1013 = .ok (.iaload, 1) := by decide +kernel
theorem dL_law_1014 : decode code 1014 = .ok (.aload_n 0, 1) := by decide +kernel
theorem dL_law_1015 : decode code 1015 = .ok (.iload_n 3, 1) := by decide +kernel
theorem dL_law_1016 : decode code 1016 = .ok (.iconst 2, 1) := by decide +kernel
theorem dL_law_1017 : decode code 1017 = .ok (.iadd, 1) := by decide +kernel
theorem dL_law_1018 : decode code 1018 = .ok (.iaload, 1) := by decide +kernel
theorem dL_law_1019 : decode code 1019 = .ok (.invokevirtual 116, 3) := by decide +kernel
theorem dL_law_1022 : decode code 1022 = .ok (.aload_n 2, 1) := by decide +kernel
theorem dL_law_1023 : decode code 1023 = .ok (.aload_n 0, 1) := by decide +kernel
theorem dL_law_1024 : decode code 1024 = .ok (.iload_n 3, 1) := by decide +kernel
theorem dL_law_1025 : decode code 1025 = .ok (.iconst 1, 1) := by decide +kernel
theorem dL_law_1026 : decode code 1026 = .ok (.iadd, 1) := by decide +kernel
theorem dL_law_1027 : decode code 1027 = .ok (.iaload, 1) := by decide +kernel
theorem dL_law_1028 : decode code 1028 = .ok (.aload_n 0, 1) := by decide +kernel
theorem dL_law_1029 : decode code 1029 = .ok (.iload_n 3, 1) := by decide +kernel
theorem dL_law_1030 : decode code 1030 = .ok (.iconst 2, 1) := by decide +kernel
theorem dL_law_1031 : decode code 1031 = .ok (.iadd, 1) := by decide +kernel
theorem dL_law_1032 : decode code 1032 = .ok (.iaload, 1) := by decide +kernel
theorem dL_law_1033 : decode code 1033 = .ok (.invokevirtual 119, 3) := by decide +kernel
theorem dL_law_1036 : decode code 1036 = .ok (.if_icmp .eq 770, 3) := by decide +kernel
set_option maxHeartbeats 4000000 in
set_option maxRecDepth 100000 in
theorem lc_when {p : Program} {l : Launch} {e : Env} {s : State} {m : MethodId} {below : List Frame} {meth : Method} {c : Code} {b : Nat} {xs : Nat → Int32} {D : va_G} {k : Nat → ClassId} {A : Nat → Prop} (C0 : lc_C p s m meth c b xs D k A) (ad : Nat → Nat) (hm : Nat) (am : Nat → Nat) (H : Heap) (locs : List Loc) (ls : Array Slot) (hP : va_P D gx_cl [((ad 0), .inr (4, [.ref (ad 1), .ref (ad 2), .ref (ad 3), .ref (ad 4), .ref (ad 5), .ref (ad 6), .ref (ad 7), .ref (ad 8), .ref (ad 9), .int 0])), ((ad 1), .inr (0, [.ref (ad 10), .ref (ad 11), .ref (ad 12), .ref (ad 13), .ref (ad 14), .ref (ad 15), .ref (ad 16), .ref (ad 17), .ref (ad 18), .int 0, .int 0, .int 0, .int 0, .int 1, .int 0, .int 0, .int 0])), ((ad 9), .inl (k 0, 5, .inl (fun _ => 0))), (hm, .inr (5, [.ref (am 1), .ref (am 2), .ref (am 3), .ref (am 4), .ref (am 5), .ref (am 6), .ref (am 7), .ref (am 8), .int 0, .ref (am 9), .int 0, .ref (am 10), .int 0, .ref (am 11), .ref (am 12), .int 0, .int 0, .int 1, .null, .null, .int 0, .int 0, .int 0, .long 0, .int 0, .ref (am 13), .int 0, .int 0, .int 0, .ref (am 14), .ref (am 15), .ref (am 16), .ref (am 17), .int 0, .ref (am 18), .ref (am 19), .ref (am 20)])), ((am 9), .inl (k 0, 8, .inl (fun _ => 0)))] H) (hD : va_D A [((ad 0), .inr (4, [.ref (ad 1), .ref (ad 2), .ref (ad 3), .ref (ad 4), .ref (ad 5), .ref (ad 6), .ref (ad 7), .ref (ad 8), .ref (ad 9), .int 0])), ((ad 1), .inr (0, [.ref (ad 10), .ref (ad 11), .ref (ad 12), .ref (ad 13), .ref (ad 14), .ref (ad 15), .ref (ad 16), .ref (ad 17), .ref (ad 18), .int 0, .int 0, .int 0, .int 0, .int 1, .int 0, .int 0, .int 0])), ((ad 9), .inl (k 0, 5, .inl (fun _ => 0))), (hm, .inr (5, [.ref (am 1), .ref (am 2), .ref (am 3), .ref (am 4), .ref (am 5), .ref (am 6), .ref (am 7), .ref (am 8), .int 0, .ref (am 9), .int 0, .ref (am 10), .int 0, .ref (am 11), .ref (am 12), .int 0, .int 0, .int 1, .null, .null, .int 0, .int 0, .int 0, .long 0, .int 0, .ref (am 13), .int 0, .int 0, .int 0, .ref (am 14), .ref (am 15), .ref (am 16), .ref (am 17), .int 0, .ref (am 18), .ref (am 19), .ref (am 20)])), ((am 9), .inl (k 0, 8, .inl (fun _ => 0)))]) (hS : va_S A s.heap H locs) (hl : lv_has ls 4 [(3, .int 0), (2, .ref hm), (1, .ref (ad 0)), (0, .ref b)]) : W p l e room_1 s m #[Value.ref b] below meth c H locs 1140 19699 (lw_Z below #[Value.ref b] s) (F0 m 837 ls []) := by
  obtain ⟨C, hK, hX, hbl, hA, hA2, hbA⟩ := id C0
  obtain ⟨hx, hb, hr, hml, hown, hT, hlk, -⟩ := id C
  refine lv_aload_n hx hb dL_law_837 rfl (lv_at hl 2 rfl) ?_
  refine lv_aload_n hx hb dL_law_838 rfl (lv_at hl 3 rfl) ?_
  refine lv_iload_n hx hb dL_law_839 rfl (lv_at hl 0 rfl) ?_
  refine lv_iconst (v := 1) hx hb dL_law_840 (by decide) ?_
  refine lv_iadd hx hb dL_law_841 ?_
  refine gx_cst (v := 1) (by decide) ?_
  refine va_sld hx hb hX hbl hbA hS (gx_vin rfl) dL_law_842 ?_
  refine gx_cst (v := (xs 1)) rfl ?_
  refine lv_aload_n hx hb dL_law_843 rfl (lv_at hl 3 rfl) ?_
  refine lv_iload_n hx hb dL_law_844 rfl (lv_at hl 0 rfl) ?_
  refine lv_iconst (v := 2) hx hb dL_law_845 (by decide) ?_
  refine lv_iadd hx hb dL_law_846 ?_
  refine gx_cst (v := 2) (by decide) ?_
  refine va_sld hx hb hX hbl hbA hS (gx_vin rfl) dL_law_847 ?_
  refine gx_cst (v := (xs 2)) rfl ?_
  refine gx_ei (wc := ([((ad 0), .inr (4, [.ref (ad 1), .ref (ad 2), .ref (ad 3), .ref (ad 4), .ref (ad 5), .ref (ad 6), .ref (ad 7), .ref (ad 8), .ref (ad 9), .int 0])), ((ad 1), .inr (0, [.ref (ad 10), .ref (ad 11), .ref (ad 12), .ref (ad 13), .ref (ad 14), .ref (ad 15), .ref (ad 16), .ref (ad 17), .ref (ad 18), .int 0, .int 0, .int 0, .int 0, .int 1, .int 0, .int 0, .int 0])), ((ad 9), .inl (k 0, 5, .inl (fun _ => 0)))] : va_W)) (wr := [(hm, .inr (5, [.ref (am 1), .ref (am 2), .ref (am 3), .ref (am 4), .ref (am 5), .ref (am 6), .ref (am 7), .ref (am 8), .int 0, .ref (am 9), .int 0, .ref (am 10), .int 0, .ref (am 11), .ref (am 12), .int 0, .int 0, .int 1, .null, .null, .int 0, .int 0, .int 0, .long 0, .int 0, .ref (am 13), .int 0, .int 0, .int 0, .ref (am 14), .ref (am 15), .ref (am 16), .ref (am 17), .int 0, .ref (am 18), .ref (am 19), .ref (am 20)])), ((am 9), .inl (k 0, 8, .inl (fun _ => 0)))]) (isC := [0, 1, 2]) (isR := [3, 4]) hP hD hS hA rfl rfl (by decide) (by decide) (gx_runV (na := 2) (As := [.int (xs 1), .int (xs 2)]) (rest := []) (ci := 4) C hl.1 hK (gx_subP (wc := ([((ad 0), .inr (4, [.ref (ad 1), .ref (ad 2), .ref (ad 3), .ref (ad 4), .ref (ad 5), .ref (ad 6), .ref (ad 7), .ref (ad 8), .ref (ad 9), .int 0])), ((ad 1), .inr (0, [.ref (ad 10), .ref (ad 11), .ref (ad 12), .ref (ad 13), .ref (ad 14), .ref (ad 15), .ref (ad 16), .ref (ad 17), .ref (ad 18), .int 0, .int 0, .int 0, .int 0, .int 1, .int 0, .int 0, .int 0])), ((ad 9), .inl (k 0, 5, .inl (fun _ => 0)))] : va_W)) hP [0, 1, 2] rfl) ((hD.sub (ws' := ([((ad 0), .inr (4, [.ref (ad 1), .ref (ad 2), .ref (ad 3), .ref (ad 4), .ref (ad 5), .ref (ad 6), .ref (ad 7), .ref (ad 8), .ref (ad 9), .int 0])), ((ad 1), .inr (0, [.ref (ad 10), .ref (ad 11), .ref (ad 12), .ref (ad 13), .ref (ad 14), .ref (ad 15), .ref (ad 16), .ref (ad 17), .ref (ad 18), .int 0, .int 0, .int 0, .int 0, .int 1, .int 0, .int 0, .int 0])), ((ad 9), .inl (k 0, 5, .inl (fun _ => 0)))] : va_W)) [0, 1, 2] (by decide) rfl).weaken (fun _ _ _ _ => trivial)) (x_when l D k ad (xs 1) (xs 2) _) gV_R_law_88 (by decide +kernel) rfl rfl ⟨Nat.le_of_ble_eq_true rfl, Nat.le_of_ble_eq_true rfl⟩ rfl rfl rfl rfl (Nat.le_of_ble_eq_true rfl) dL_law_848 ⟨Nat.le_of_ble_eq_true rfl, Nat.le_of_ble_eq_true rfl⟩) (fun r_3 u_1 H locs h_2 hP hD hS => ?_)
  have h_2 : r_3 = -2 := h_2
  have hP : va_P D gx_cl [(hm, .inr (5, [.ref (am 1), .ref (am 2), .ref (am 3), .ref (am 4), .ref (am 5), .ref (am 6), .ref (am 7), .ref (am 8), .int 0, .ref (am 9), .int 0, .ref (am 10), .int 0, .ref (am 11), .ref (am 12), .int 0, .int 0, .int 1, .null, .null, .int 0, .int 0, .int 0, .long 0, .int 0, .ref (am 13), .int 0, .int 0, .int 0, .ref (am 14), .ref (am 15), .ref (am 16), .ref (am 17), .int 0, .ref (am 18), .ref (am 19), .ref (am 20)])), ((am 9), .inl (k 0, 8, .inl (fun _ => 0)))] H := hP
  have hD : va_D A [(hm, .inr (5, [.ref (am 1), .ref (am 2), .ref (am 3), .ref (am 4), .ref (am 5), .ref (am 6), .ref (am 7), .ref (am 8), .int 0, .ref (am 9), .int 0, .ref (am 10), .int 0, .ref (am 11), .ref (am 12), .int 0, .int 0, .int 1, .null, .null, .int 0, .int 0, .int 0, .long 0, .int 0, .ref (am 13), .int 0, .int 0, .int 0, .ref (am 14), .ref (am 15), .ref (am 16), .ref (am 17), .int 0, .ref (am 18), .ref (am 19), .ref (am 20)])), ((am 9), .inl (k 0, 8, .inl (fun _ => 0)))] := hD
  refine lv_aload_n hx hb dL_law_851 rfl (lv_at hl 1 rfl) ?_
  refine lv_aload_n hx hb dL_law_852 rfl (lv_at hl 3 rfl) ?_
  refine lv_iload_n hx hb dL_law_853 rfl (lv_at hl 0 rfl) ?_
  refine lv_iconst (v := 1) hx hb dL_law_854 (by decide) ?_
  refine lv_iadd hx hb dL_law_855 ?_
  refine gx_cst (v := 1) (by decide) ?_
  refine va_sld hx hb hX hbl hbA hS (gx_vin rfl) dL_law_856 ?_
  refine gx_cst (v := (xs 1)) rfl ?_
  refine lv_aload_n hx hb dL_law_857 rfl (lv_at hl 3 rfl) ?_
  refine lv_iload_n hx hb dL_law_858 rfl (lv_at hl 0 rfl) ?_
  refine lv_iconst (v := 2) hx hb dL_law_859 (by decide) ?_
  refine lv_iadd hx hb dL_law_860 ?_
  refine gx_cst (v := 2) (by decide) ?_
  refine va_sld hx hb hX hbl hbA hS (gx_vin rfl) dL_law_861 ?_
  refine gx_cst (v := (xs 2)) rfl ?_
  refine gx_ei (wc := ([(hm, .inr (5, [.ref (am 1), .ref (am 2), .ref (am 3), .ref (am 4), .ref (am 5), .ref (am 6), .ref (am 7), .ref (am 8), .int 0, .ref (am 9), .int 0, .ref (am 10), .int 0, .ref (am 11), .ref (am 12), .int 0, .int 0, .int 1, .null, .null, .int 0, .int 0, .int 0, .long 0, .int 0, .ref (am 13), .int 0, .int 0, .int 0, .ref (am 14), .ref (am 15), .ref (am 16), .ref (am 17), .int 0, .ref (am 18), .ref (am 19), .ref (am 20)])), ((am 9), .inl (k 0, 8, .inl (fun _ => 0)))] : va_W)) (wr := []) (isC := [0, 1]) (isR := []) hP hD hS hA rfl rfl (by decide) (by decide) (gx_runV (na := 2) (As := [.int (xs 1), .int (xs 2)]) (rest := [.int r_3]) (ci := 5) C hl.1 hK (gx_subP (wc := ([(hm, .inr (5, [.ref (am 1), .ref (am 2), .ref (am 3), .ref (am 4), .ref (am 5), .ref (am 6), .ref (am 7), .ref (am 8), .int 0, .ref (am 9), .int 0, .ref (am 10), .int 0, .ref (am 11), .ref (am 12), .int 0, .int 0, .int 1, .null, .null, .int 0, .int 0, .int 0, .long 0, .int 0, .ref (am 13), .int 0, .int 0, .int 0, .ref (am 14), .ref (am 15), .ref (am 16), .ref (am 17), .int 0, .ref (am 18), .ref (am 19), .ref (am 20)])), ((am 9), .inl (k 0, 8, .inl (fun _ => 0)))] : va_W)) hP [0, 1] rfl) ((hD.sub (ws' := ([(hm, .inr (5, [.ref (am 1), .ref (am 2), .ref (am 3), .ref (am 4), .ref (am 5), .ref (am 6), .ref (am 7), .ref (am 8), .int 0, .ref (am 9), .int 0, .ref (am 10), .int 0, .ref (am 11), .ref (am 12), .int 0, .int 0, .int 1, .null, .null, .int 0, .int 0, .int 0, .long 0, .int 0, .ref (am 13), .int 0, .int 0, .int 0, .ref (am 14), .ref (am 15), .ref (am 16), .ref (am 17), .int 0, .ref (am 18), .ref (am 19), .ref (am 20)])), ((am 9), .inl (k 0, 8, .inl (fun _ => 0)))] : va_W)) [0, 1] (by decide) rfl).weaken (fun _ _ _ _ => trivial)) (m_when_pub l D k hm am (xs 1) (xs 2) _) gV_R_law_91 (by decide +kernel) rfl rfl ⟨Nat.le_of_ble_eq_true rfl, Nat.le_of_ble_eq_true rfl⟩ rfl rfl rfl rfl (Nat.le_of_ble_eq_true rfl) dL_law_862 ⟨Nat.le_of_ble_eq_true rfl, Nat.le_of_ble_eq_true rfl⟩) (fun r_7 u_5 H locs h_6 hP hD hS => ?_)
  have h_6 : r_7 = -2 := h_6
  have hP : va_P D gx_cl [] H := hP
  have hD : va_D A [] := hD
  refine lv_icmp_eq (tgt := 1806) hx hb dL_law_865 (by decide) (fun c_9 => ?_) (fun c_9 => absurd (h_2.trans h_6.symm) c_9)
  exact lc_next C0 hS (Nat.le_of_ble_eq_true rfl) (Nat.le_of_ble_eq_true rfl) (lv_sub hl [0, 3] rfl)
set_option maxHeartbeats 4000000 in
set_option maxRecDepth 100000 in
theorem lc_left {p : Program} {l : Launch} {e : Env} {s : State} {m : MethodId} {below : List Frame} {meth : Method} {c : Code} {b : Nat} {xs : Nat → Int32} {D : va_G} {k : Nat → ClassId} {A : Nat → Prop} (C0 : lc_C p s m meth c b xs D k A) (ad : Nat → Nat) (hm : Nat) (am : Nat → Nat) (H : Heap) (locs : List Loc) (ls : Array Slot) (hP : va_P D gx_cl [((ad 0), .inr (4, [.ref (ad 1), .ref (ad 2), .ref (ad 3), .ref (ad 4), .ref (ad 5), .ref (ad 6), .ref (ad 7), .ref (ad 8), .ref (ad 9), .int 0])), ((ad 1), .inr (0, [.ref (ad 10), .ref (ad 11), .ref (ad 12), .ref (ad 13), .ref (ad 14), .ref (ad 15), .ref (ad 16), .ref (ad 17), .ref (ad 18), .int 0, .int 0, .int 0, .int 0, .int 1, .int 0, .int 0, .int 0])), ((ad 9), .inl (k 0, 5, .inl (fun _ => 0))), (hm, .inr (5, [.ref (am 1), .ref (am 2), .ref (am 3), .ref (am 4), .ref (am 5), .ref (am 6), .ref (am 7), .ref (am 8), .int 0, .ref (am 9), .int 0, .ref (am 10), .int 0, .ref (am 11), .ref (am 12), .int 0, .int 0, .int 1, .null, .null, .int 0, .int 0, .int 0, .long 0, .int 0, .ref (am 13), .int 0, .int 0, .int 0, .ref (am 14), .ref (am 15), .ref (am 16), .ref (am 17), .int 0, .ref (am 18), .ref (am 19), .ref (am 20)])), ((am 9), .inl (k 0, 8, .inl (fun _ => 0)))] H) (hD : va_D A [((ad 0), .inr (4, [.ref (ad 1), .ref (ad 2), .ref (ad 3), .ref (ad 4), .ref (ad 5), .ref (ad 6), .ref (ad 7), .ref (ad 8), .ref (ad 9), .int 0])), ((ad 1), .inr (0, [.ref (ad 10), .ref (ad 11), .ref (ad 12), .ref (ad 13), .ref (ad 14), .ref (ad 15), .ref (ad 16), .ref (ad 17), .ref (ad 18), .int 0, .int 0, .int 0, .int 0, .int 1, .int 0, .int 0, .int 0])), ((ad 9), .inl (k 0, 5, .inl (fun _ => 0))), (hm, .inr (5, [.ref (am 1), .ref (am 2), .ref (am 3), .ref (am 4), .ref (am 5), .ref (am 6), .ref (am 7), .ref (am 8), .int 0, .ref (am 9), .int 0, .ref (am 10), .int 0, .ref (am 11), .ref (am 12), .int 0, .int 0, .int 1, .null, .null, .int 0, .int 0, .int 0, .long 0, .int 0, .ref (am 13), .int 0, .int 0, .int 0, .ref (am 14), .ref (am 15), .ref (am 16), .ref (am 17), .int 0, .ref (am 18), .ref (am 19), .ref (am 20)])), ((am 9), .inl (k 0, 8, .inl (fun _ => 0)))]) (hS : va_S A s.heap H locs) (hl : lv_has ls 4 [(3, .int 0), (2, .ref hm), (1, .ref (ad 0)), (0, .ref b)]) : W p l e room_1 s m #[Value.ref b] below meth c H locs 1140 19699 (lw_Z below #[Value.ref b] s) (F0 m 870 ls []) := by
  obtain ⟨C, hK, hX, hbl, hA, hA2, hbA⟩ := id C0
  obtain ⟨hx, hb, hr, hml, hown, hT, hlk, -⟩ := id C
  refine lv_aload_n hx hb dL_law_870 rfl (lv_at hl 2 rfl) ?_
  refine lv_aload_n hx hb dL_law_871 rfl (lv_at hl 3 rfl) ?_
  refine lv_iload_n hx hb dL_law_872 rfl (lv_at hl 0 rfl) ?_
  refine lv_iconst (v := 1) hx hb dL_law_873 (by decide) ?_
  refine lv_iadd hx hb dL_law_874 ?_
  refine gx_cst (v := 1) (by decide) ?_
  refine va_sld hx hb hX hbl hbA hS (gx_vin rfl) dL_law_875 ?_
  refine gx_cst (v := (xs 1)) rfl ?_
  refine gx_ei (wc := ([((ad 0), .inr (4, [.ref (ad 1), .ref (ad 2), .ref (ad 3), .ref (ad 4), .ref (ad 5), .ref (ad 6), .ref (ad 7), .ref (ad 8), .ref (ad 9), .int 0])), ((ad 1), .inr (0, [.ref (ad 10), .ref (ad 11), .ref (ad 12), .ref (ad 13), .ref (ad 14), .ref (ad 15), .ref (ad 16), .ref (ad 17), .ref (ad 18), .int 0, .int 0, .int 0, .int 0, .int 1, .int 0, .int 0, .int 0])), ((ad 9), .inl (k 0, 5, .inl (fun _ => 0)))] : va_W)) (wr := [(hm, .inr (5, [.ref (am 1), .ref (am 2), .ref (am 3), .ref (am 4), .ref (am 5), .ref (am 6), .ref (am 7), .ref (am 8), .int 0, .ref (am 9), .int 0, .ref (am 10), .int 0, .ref (am 11), .ref (am 12), .int 0, .int 0, .int 1, .null, .null, .int 0, .int 0, .int 0, .long 0, .int 0, .ref (am 13), .int 0, .int 0, .int 0, .ref (am 14), .ref (am 15), .ref (am 16), .ref (am 17), .int 0, .ref (am 18), .ref (am 19), .ref (am 20)])), ((am 9), .inl (k 0, 8, .inl (fun _ => 0)))]) (isC := [0, 1, 2]) (isR := [3, 4]) hP hD hS hA rfl rfl (by decide) (by decide) (gx_runV (na := 1) (As := [.int (xs 1)]) (rest := []) (ci := 4) C hl.1 hK (gx_subP (wc := ([((ad 0), .inr (4, [.ref (ad 1), .ref (ad 2), .ref (ad 3), .ref (ad 4), .ref (ad 5), .ref (ad 6), .ref (ad 7), .ref (ad 8), .ref (ad 9), .int 0])), ((ad 1), .inr (0, [.ref (ad 10), .ref (ad 11), .ref (ad 12), .ref (ad 13), .ref (ad 14), .ref (ad 15), .ref (ad 16), .ref (ad 17), .ref (ad 18), .int 0, .int 0, .int 0, .int 0, .int 1, .int 0, .int 0, .int 0])), ((ad 9), .inl (k 0, 5, .inl (fun _ => 0)))] : va_W)) hP [0, 1, 2] rfl) ((hD.sub (ws' := ([((ad 0), .inr (4, [.ref (ad 1), .ref (ad 2), .ref (ad 3), .ref (ad 4), .ref (ad 5), .ref (ad 6), .ref (ad 7), .ref (ad 8), .ref (ad 9), .int 0])), ((ad 1), .inr (0, [.ref (ad 10), .ref (ad 11), .ref (ad 12), .ref (ad 13), .ref (ad 14), .ref (ad 15), .ref (ad 16), .ref (ad 17), .ref (ad 18), .int 0, .int 0, .int 0, .int 0, .int 1, .int 0, .int 0, .int 0])), ((ad 9), .inl (k 0, 5, .inl (fun _ => 0)))] : va_W)) [0, 1, 2] (by decide) rfl).weaken (fun _ _ _ _ => trivial)) (x_left l D k ad (xs 1) _) gV_R_law_92 (by decide +kernel) rfl rfl ⟨Nat.le_of_ble_eq_true rfl, Nat.le_of_ble_eq_true rfl⟩ rfl rfl rfl rfl (Nat.le_of_ble_eq_true rfl) dL_law_876 ⟨Nat.le_of_ble_eq_true rfl, Nat.le_of_ble_eq_true rfl⟩) (fun r_3 u_1 H locs h_2 hP hD hS => ?_)
  have h_2 : r_3 = -2 := h_2
  have hP : va_P D gx_cl [(hm, .inr (5, [.ref (am 1), .ref (am 2), .ref (am 3), .ref (am 4), .ref (am 5), .ref (am 6), .ref (am 7), .ref (am 8), .int 0, .ref (am 9), .int 0, .ref (am 10), .int 0, .ref (am 11), .ref (am 12), .int 0, .int 0, .int 1, .null, .null, .int 0, .int 0, .int 0, .long 0, .int 0, .ref (am 13), .int 0, .int 0, .int 0, .ref (am 14), .ref (am 15), .ref (am 16), .ref (am 17), .int 0, .ref (am 18), .ref (am 19), .ref (am 20)])), ((am 9), .inl (k 0, 8, .inl (fun _ => 0)))] H := hP
  have hD : va_D A [(hm, .inr (5, [.ref (am 1), .ref (am 2), .ref (am 3), .ref (am 4), .ref (am 5), .ref (am 6), .ref (am 7), .ref (am 8), .int 0, .ref (am 9), .int 0, .ref (am 10), .int 0, .ref (am 11), .ref (am 12), .int 0, .int 0, .int 1, .null, .null, .int 0, .int 0, .int 0, .long 0, .int 0, .ref (am 13), .int 0, .int 0, .int 0, .ref (am 14), .ref (am 15), .ref (am 16), .ref (am 17), .int 0, .ref (am 18), .ref (am 19), .ref (am 20)])), ((am 9), .inl (k 0, 8, .inl (fun _ => 0)))] := hD
  refine lv_aload_n hx hb dL_law_879 rfl (lv_at hl 1 rfl) ?_
  refine lv_aload_n hx hb dL_law_880 rfl (lv_at hl 3 rfl) ?_
  refine lv_iload_n hx hb dL_law_881 rfl (lv_at hl 0 rfl) ?_
  refine lv_iconst (v := 1) hx hb dL_law_882 (by decide) ?_
  refine lv_iadd hx hb dL_law_883 ?_
  refine gx_cst (v := 1) (by decide) ?_
  refine va_sld hx hb hX hbl hbA hS (gx_vin rfl) dL_law_884 ?_
  refine gx_cst (v := (xs 1)) rfl ?_
  refine gx_ei (wc := ([(hm, .inr (5, [.ref (am 1), .ref (am 2), .ref (am 3), .ref (am 4), .ref (am 5), .ref (am 6), .ref (am 7), .ref (am 8), .int 0, .ref (am 9), .int 0, .ref (am 10), .int 0, .ref (am 11), .ref (am 12), .int 0, .int 0, .int 1, .null, .null, .int 0, .int 0, .int 0, .long 0, .int 0, .ref (am 13), .int 0, .int 0, .int 0, .ref (am 14), .ref (am 15), .ref (am 16), .ref (am 17), .int 0, .ref (am 18), .ref (am 19), .ref (am 20)])), ((am 9), .inl (k 0, 8, .inl (fun _ => 0)))] : va_W)) (wr := []) (isC := [0, 1]) (isR := []) hP hD hS hA rfl rfl (by decide) (by decide) (gx_runV (na := 1) (As := [.int (xs 1)]) (rest := [.int r_3]) (ci := 5) C hl.1 hK (gx_subP (wc := ([(hm, .inr (5, [.ref (am 1), .ref (am 2), .ref (am 3), .ref (am 4), .ref (am 5), .ref (am 6), .ref (am 7), .ref (am 8), .int 0, .ref (am 9), .int 0, .ref (am 10), .int 0, .ref (am 11), .ref (am 12), .int 0, .int 0, .int 1, .null, .null, .int 0, .int 0, .int 0, .long 0, .int 0, .ref (am 13), .int 0, .int 0, .int 0, .ref (am 14), .ref (am 15), .ref (am 16), .ref (am 17), .int 0, .ref (am 18), .ref (am 19), .ref (am 20)])), ((am 9), .inl (k 0, 8, .inl (fun _ => 0)))] : va_W)) hP [0, 1] rfl) ((hD.sub (ws' := ([(hm, .inr (5, [.ref (am 1), .ref (am 2), .ref (am 3), .ref (am 4), .ref (am 5), .ref (am 6), .ref (am 7), .ref (am 8), .int 0, .ref (am 9), .int 0, .ref (am 10), .int 0, .ref (am 11), .ref (am 12), .int 0, .int 0, .int 1, .null, .null, .int 0, .int 0, .int 0, .long 0, .int 0, .ref (am 13), .int 0, .int 0, .int 0, .ref (am 14), .ref (am 15), .ref (am 16), .ref (am 17), .int 0, .ref (am 18), .ref (am 19), .ref (am 20)])), ((am 9), .inl (k 0, 8, .inl (fun _ => 0)))] : va_W)) [0, 1] (by decide) rfl).weaken (fun _ _ _ _ => trivial)) (m_left_pub l D k hm am (xs 1) _) gV_R_law_95 (by decide +kernel) rfl rfl ⟨Nat.le_of_ble_eq_true rfl, Nat.le_of_ble_eq_true rfl⟩ rfl rfl rfl rfl (Nat.le_of_ble_eq_true rfl) dL_law_885 ⟨Nat.le_of_ble_eq_true rfl, Nat.le_of_ble_eq_true rfl⟩) (fun r_7 u_5 H locs h_6 hP hD hS => ?_)
  have h_6 : r_7 = -2 := h_6
  have hP : va_P D gx_cl [] H := hP
  have hD : va_D A [] := hD
  refine lv_icmp_eq (tgt := 1806) hx hb dL_law_888 (by decide) (fun c_9 => ?_) (fun c_9 => absurd (h_2.trans h_6.symm) c_9)
  exact lc_next C0 hS (Nat.le_of_ble_eq_true rfl) (Nat.le_of_ble_eq_true rfl) (lv_sub hl [0, 3] rfl)
set_option maxHeartbeats 4000000 in
set_option maxRecDepth 100000 in
theorem lc_here {p : Program} {l : Launch} {e : Env} {s : State} {m : MethodId} {below : List Frame} {meth : Method} {c : Code} {b : Nat} {xs : Nat → Int32} {D : va_G} {k : Nat → ClassId} {A : Nat → Prop} (C0 : lc_C p s m meth c b xs D k A) (ad : Nat → Nat) (hm : Nat) (am : Nat → Nat) (H : Heap) (locs : List Loc) (ls : Array Slot) (hP : va_P D gx_cl [((ad 0), .inr (4, [.ref (ad 1), .ref (ad 2), .ref (ad 3), .ref (ad 4), .ref (ad 5), .ref (ad 6), .ref (ad 7), .ref (ad 8), .ref (ad 9), .int 0])), ((ad 1), .inr (0, [.ref (ad 10), .ref (ad 11), .ref (ad 12), .ref (ad 13), .ref (ad 14), .ref (ad 15), .ref (ad 16), .ref (ad 17), .ref (ad 18), .int 0, .int 0, .int 0, .int 0, .int 1, .int 0, .int 0, .int 0])), ((ad 9), .inl (k 0, 5, .inl (fun _ => 0))), (hm, .inr (5, [.ref (am 1), .ref (am 2), .ref (am 3), .ref (am 4), .ref (am 5), .ref (am 6), .ref (am 7), .ref (am 8), .int 0, .ref (am 9), .int 0, .ref (am 10), .int 0, .ref (am 11), .ref (am 12), .int 0, .int 0, .int 1, .null, .null, .int 0, .int 0, .int 0, .long 0, .int 0, .ref (am 13), .int 0, .int 0, .int 0, .ref (am 14), .ref (am 15), .ref (am 16), .ref (am 17), .int 0, .ref (am 18), .ref (am 19), .ref (am 20)])), ((am 9), .inl (k 0, 8, .inl (fun _ => 0)))] H) (hD : va_D A [((ad 0), .inr (4, [.ref (ad 1), .ref (ad 2), .ref (ad 3), .ref (ad 4), .ref (ad 5), .ref (ad 6), .ref (ad 7), .ref (ad 8), .ref (ad 9), .int 0])), ((ad 1), .inr (0, [.ref (ad 10), .ref (ad 11), .ref (ad 12), .ref (ad 13), .ref (ad 14), .ref (ad 15), .ref (ad 16), .ref (ad 17), .ref (ad 18), .int 0, .int 0, .int 0, .int 0, .int 1, .int 0, .int 0, .int 0])), ((ad 9), .inl (k 0, 5, .inl (fun _ => 0))), (hm, .inr (5, [.ref (am 1), .ref (am 2), .ref (am 3), .ref (am 4), .ref (am 5), .ref (am 6), .ref (am 7), .ref (am 8), .int 0, .ref (am 9), .int 0, .ref (am 10), .int 0, .ref (am 11), .ref (am 12), .int 0, .int 0, .int 1, .null, .null, .int 0, .int 0, .int 0, .long 0, .int 0, .ref (am 13), .int 0, .int 0, .int 0, .ref (am 14), .ref (am 15), .ref (am 16), .ref (am 17), .int 0, .ref (am 18), .ref (am 19), .ref (am 20)])), ((am 9), .inl (k 0, 8, .inl (fun _ => 0)))]) (hS : va_S A s.heap H locs) (hl : lv_has ls 4 [(3, .int 0), (2, .ref hm), (1, .ref (ad 0)), (0, .ref b)]) : W p l e room_1 s m #[Value.ref b] below meth c H locs 1140 19699 (lw_Z below #[Value.ref b] s) (F0 m 893 ls []) := by
  obtain ⟨C, hK, hX, hbl, hA, hA2, hbA⟩ := id C0
  obtain ⟨hx, hb, hr, hml, hown, hT, hlk, -⟩ := id C
  refine lv_aload_n hx hb dL_law_893 rfl (lv_at hl 2 rfl) ?_
  refine lv_aload_n hx hb dL_law_894 rfl (lv_at hl 3 rfl) ?_
  refine lv_iload_n hx hb dL_law_895 rfl (lv_at hl 0 rfl) ?_
  refine lv_iconst (v := 1) hx hb dL_law_896 (by decide) ?_
  refine lv_iadd hx hb dL_law_897 ?_
  refine gx_cst (v := 1) (by decide) ?_
  refine va_sld hx hb hX hbl hbA hS (gx_vin rfl) dL_law_898 ?_
  refine gx_cst (v := (xs 1)) rfl ?_
  refine gx_ei (wc := ([((ad 0), .inr (4, [.ref (ad 1), .ref (ad 2), .ref (ad 3), .ref (ad 4), .ref (ad 5), .ref (ad 6), .ref (ad 7), .ref (ad 8), .ref (ad 9), .int 0])), ((ad 1), .inr (0, [.ref (ad 10), .ref (ad 11), .ref (ad 12), .ref (ad 13), .ref (ad 14), .ref (ad 15), .ref (ad 16), .ref (ad 17), .ref (ad 18), .int 0, .int 0, .int 0, .int 0, .int 1, .int 0, .int 0, .int 0])), ((ad 9), .inl (k 0, 5, .inl (fun _ => 0)))] : va_W)) (wr := [(hm, .inr (5, [.ref (am 1), .ref (am 2), .ref (am 3), .ref (am 4), .ref (am 5), .ref (am 6), .ref (am 7), .ref (am 8), .int 0, .ref (am 9), .int 0, .ref (am 10), .int 0, .ref (am 11), .ref (am 12), .int 0, .int 0, .int 1, .null, .null, .int 0, .int 0, .int 0, .long 0, .int 0, .ref (am 13), .int 0, .int 0, .int 0, .ref (am 14), .ref (am 15), .ref (am 16), .ref (am 17), .int 0, .ref (am 18), .ref (am 19), .ref (am 20)])), ((am 9), .inl (k 0, 8, .inl (fun _ => 0)))]) (isC := [0, 1, 2]) (isR := [3, 4]) hP hD hS hA rfl rfl (by decide) (by decide) (gx_runV (na := 1) (As := [.int (xs 1)]) (rest := []) (ci := 4) C hl.1 hK (gx_subP (wc := ([((ad 0), .inr (4, [.ref (ad 1), .ref (ad 2), .ref (ad 3), .ref (ad 4), .ref (ad 5), .ref (ad 6), .ref (ad 7), .ref (ad 8), .ref (ad 9), .int 0])), ((ad 1), .inr (0, [.ref (ad 10), .ref (ad 11), .ref (ad 12), .ref (ad 13), .ref (ad 14), .ref (ad 15), .ref (ad 16), .ref (ad 17), .ref (ad 18), .int 0, .int 0, .int 0, .int 0, .int 1, .int 0, .int 0, .int 0])), ((ad 9), .inl (k 0, 5, .inl (fun _ => 0)))] : va_W)) hP [0, 1, 2] rfl) ((hD.sub (ws' := ([((ad 0), .inr (4, [.ref (ad 1), .ref (ad 2), .ref (ad 3), .ref (ad 4), .ref (ad 5), .ref (ad 6), .ref (ad 7), .ref (ad 8), .ref (ad 9), .int 0])), ((ad 1), .inr (0, [.ref (ad 10), .ref (ad 11), .ref (ad 12), .ref (ad 13), .ref (ad 14), .ref (ad 15), .ref (ad 16), .ref (ad 17), .ref (ad 18), .int 0, .int 0, .int 0, .int 0, .int 1, .int 0, .int 0, .int 0])), ((ad 9), .inl (k 0, 5, .inl (fun _ => 0)))] : va_W)) [0, 1, 2] (by decide) rfl).weaken (fun _ _ _ _ => trivial)) (x_here l D k ad (xs 1) _) gV_R_law_96 (by decide +kernel) rfl rfl ⟨Nat.le_of_ble_eq_true rfl, Nat.le_of_ble_eq_true rfl⟩ rfl rfl rfl rfl (Nat.le_of_ble_eq_true rfl) dL_law_899 ⟨Nat.le_of_ble_eq_true rfl, Nat.le_of_ble_eq_true rfl⟩) (fun r_3 u_1 H locs h_2 hP hD hS => ?_)
  have h_2 : r_3 = -2 := h_2
  have hP : va_P D gx_cl [(hm, .inr (5, [.ref (am 1), .ref (am 2), .ref (am 3), .ref (am 4), .ref (am 5), .ref (am 6), .ref (am 7), .ref (am 8), .int 0, .ref (am 9), .int 0, .ref (am 10), .int 0, .ref (am 11), .ref (am 12), .int 0, .int 0, .int 1, .null, .null, .int 0, .int 0, .int 0, .long 0, .int 0, .ref (am 13), .int 0, .int 0, .int 0, .ref (am 14), .ref (am 15), .ref (am 16), .ref (am 17), .int 0, .ref (am 18), .ref (am 19), .ref (am 20)])), ((am 9), .inl (k 0, 8, .inl (fun _ => 0)))] H := hP
  have hD : va_D A [(hm, .inr (5, [.ref (am 1), .ref (am 2), .ref (am 3), .ref (am 4), .ref (am 5), .ref (am 6), .ref (am 7), .ref (am 8), .int 0, .ref (am 9), .int 0, .ref (am 10), .int 0, .ref (am 11), .ref (am 12), .int 0, .int 0, .int 1, .null, .null, .int 0, .int 0, .int 0, .long 0, .int 0, .ref (am 13), .int 0, .int 0, .int 0, .ref (am 14), .ref (am 15), .ref (am 16), .ref (am 17), .int 0, .ref (am 18), .ref (am 19), .ref (am 20)])), ((am 9), .inl (k 0, 8, .inl (fun _ => 0)))] := hD
  refine lv_aload_n hx hb dL_law_902 rfl (lv_at hl 1 rfl) ?_
  refine lv_aload_n hx hb dL_law_903 rfl (lv_at hl 3 rfl) ?_
  refine lv_iload_n hx hb dL_law_904 rfl (lv_at hl 0 rfl) ?_
  refine lv_iconst (v := 1) hx hb dL_law_905 (by decide) ?_
  refine lv_iadd hx hb dL_law_906 ?_
  refine gx_cst (v := 1) (by decide) ?_
  refine va_sld hx hb hX hbl hbA hS (gx_vin rfl) dL_law_907 ?_
  refine gx_cst (v := (xs 1)) rfl ?_
  refine gx_ei (wc := ([(hm, .inr (5, [.ref (am 1), .ref (am 2), .ref (am 3), .ref (am 4), .ref (am 5), .ref (am 6), .ref (am 7), .ref (am 8), .int 0, .ref (am 9), .int 0, .ref (am 10), .int 0, .ref (am 11), .ref (am 12), .int 0, .int 0, .int 1, .null, .null, .int 0, .int 0, .int 0, .long 0, .int 0, .ref (am 13), .int 0, .int 0, .int 0, .ref (am 14), .ref (am 15), .ref (am 16), .ref (am 17), .int 0, .ref (am 18), .ref (am 19), .ref (am 20)])), ((am 9), .inl (k 0, 8, .inl (fun _ => 0)))] : va_W)) (wr := []) (isC := [0, 1]) (isR := []) hP hD hS hA rfl rfl (by decide) (by decide) (gx_runV (na := 1) (As := [.int (xs 1)]) (rest := [.int r_3]) (ci := 5) C hl.1 hK (gx_subP (wc := ([(hm, .inr (5, [.ref (am 1), .ref (am 2), .ref (am 3), .ref (am 4), .ref (am 5), .ref (am 6), .ref (am 7), .ref (am 8), .int 0, .ref (am 9), .int 0, .ref (am 10), .int 0, .ref (am 11), .ref (am 12), .int 0, .int 0, .int 1, .null, .null, .int 0, .int 0, .int 0, .long 0, .int 0, .ref (am 13), .int 0, .int 0, .int 0, .ref (am 14), .ref (am 15), .ref (am 16), .ref (am 17), .int 0, .ref (am 18), .ref (am 19), .ref (am 20)])), ((am 9), .inl (k 0, 8, .inl (fun _ => 0)))] : va_W)) hP [0, 1] rfl) ((hD.sub (ws' := ([(hm, .inr (5, [.ref (am 1), .ref (am 2), .ref (am 3), .ref (am 4), .ref (am 5), .ref (am 6), .ref (am 7), .ref (am 8), .int 0, .ref (am 9), .int 0, .ref (am 10), .int 0, .ref (am 11), .ref (am 12), .int 0, .int 0, .int 1, .null, .null, .int 0, .int 0, .int 0, .long 0, .int 0, .ref (am 13), .int 0, .int 0, .int 0, .ref (am 14), .ref (am 15), .ref (am 16), .ref (am 17), .int 0, .ref (am 18), .ref (am 19), .ref (am 20)])), ((am 9), .inl (k 0, 8, .inl (fun _ => 0)))] : va_W)) [0, 1] (by decide) rfl).weaken (fun _ _ _ _ => trivial)) (m_here_pub l D k hm am (xs 1) _) gV_R_law_99 (by decide +kernel) rfl rfl ⟨Nat.le_of_ble_eq_true rfl, Nat.le_of_ble_eq_true rfl⟩ rfl rfl rfl rfl (Nat.le_of_ble_eq_true rfl) dL_law_908 ⟨Nat.le_of_ble_eq_true rfl, Nat.le_of_ble_eq_true rfl⟩) (fun r_7 u_5 H locs h_6 hP hD hS => ?_)
  have h_6 : r_7 = -2 := h_6
  have hP : va_P D gx_cl [] H := hP
  have hD : va_D A [] := hD
  refine lv_icmp_eq (tgt := 1806) hx hb dL_law_911 (by decide) (fun c_9 => ?_) (fun c_9 => absurd (h_2.trans h_6.symm) c_9)
  exact lc_next C0 hS (Nat.le_of_ble_eq_true rfl) (Nat.le_of_ble_eq_true rfl) (lv_sub hl [0, 3] rfl)
set_option maxHeartbeats 4000000 in
set_option maxRecDepth 100000 in
theorem lc_reach {p : Program} {l : Launch} {e : Env} {s : State} {m : MethodId} {below : List Frame} {meth : Method} {c : Code} {b : Nat} {xs : Nat → Int32} {D : va_G} {k : Nat → ClassId} {A : Nat → Prop} (C0 : lc_C p s m meth c b xs D k A) (ad : Nat → Nat) (hm : Nat) (am : Nat → Nat) (H : Heap) (locs : List Loc) (ls : Array Slot) (hP : va_P D gx_cl [((ad 0), .inr (4, [.ref (ad 1), .ref (ad 2), .ref (ad 3), .ref (ad 4), .ref (ad 5), .ref (ad 6), .ref (ad 7), .ref (ad 8), .ref (ad 9), .int 0])), ((ad 1), .inr (0, [.ref (ad 10), .ref (ad 11), .ref (ad 12), .ref (ad 13), .ref (ad 14), .ref (ad 15), .ref (ad 16), .ref (ad 17), .ref (ad 18), .int 0, .int 0, .int 0, .int 0, .int 1, .int 0, .int 0, .int 0])), ((ad 9), .inl (k 0, 5, .inl (fun _ => 0))), (hm, .inr (5, [.ref (am 1), .ref (am 2), .ref (am 3), .ref (am 4), .ref (am 5), .ref (am 6), .ref (am 7), .ref (am 8), .int 0, .ref (am 9), .int 0, .ref (am 10), .int 0, .ref (am 11), .ref (am 12), .int 0, .int 0, .int 1, .null, .null, .int 0, .int 0, .int 0, .long 0, .int 0, .ref (am 13), .int 0, .int 0, .int 0, .ref (am 14), .ref (am 15), .ref (am 16), .ref (am 17), .int 0, .ref (am 18), .ref (am 19), .ref (am 20)])), ((am 9), .inl (k 0, 8, .inl (fun _ => 0)))] H) (hD : va_D A [((ad 0), .inr (4, [.ref (ad 1), .ref (ad 2), .ref (ad 3), .ref (ad 4), .ref (ad 5), .ref (ad 6), .ref (ad 7), .ref (ad 8), .ref (ad 9), .int 0])), ((ad 1), .inr (0, [.ref (ad 10), .ref (ad 11), .ref (ad 12), .ref (ad 13), .ref (ad 14), .ref (ad 15), .ref (ad 16), .ref (ad 17), .ref (ad 18), .int 0, .int 0, .int 0, .int 0, .int 1, .int 0, .int 0, .int 0])), ((ad 9), .inl (k 0, 5, .inl (fun _ => 0))), (hm, .inr (5, [.ref (am 1), .ref (am 2), .ref (am 3), .ref (am 4), .ref (am 5), .ref (am 6), .ref (am 7), .ref (am 8), .int 0, .ref (am 9), .int 0, .ref (am 10), .int 0, .ref (am 11), .ref (am 12), .int 0, .int 0, .int 1, .null, .null, .int 0, .int 0, .int 0, .long 0, .int 0, .ref (am 13), .int 0, .int 0, .int 0, .ref (am 14), .ref (am 15), .ref (am 16), .ref (am 17), .int 0, .ref (am 18), .ref (am 19), .ref (am 20)])), ((am 9), .inl (k 0, 8, .inl (fun _ => 0)))]) (hS : va_S A s.heap H locs) (hl : lv_has ls 4 [(3, .int 0), (2, .ref hm), (1, .ref (ad 0)), (0, .ref b)]) : W p l e room_1 s m #[Value.ref b] below meth c H locs 1140 19699 (lw_Z below #[Value.ref b] s) (F0 m 916 ls []) := by
  obtain ⟨C, hK, hX, hbl, hA, hA2, hbA⟩ := id C0
  obtain ⟨hx, hb, hr, hml, hown, hT, hlk, -⟩ := id C
  refine lv_aload_n hx hb dL_law_916 rfl (lv_at hl 2 rfl) ?_
  refine lv_aload_n hx hb dL_law_917 rfl (lv_at hl 3 rfl) ?_
  refine lv_iload_n hx hb dL_law_918 rfl (lv_at hl 0 rfl) ?_
  refine lv_iconst (v := 1) hx hb dL_law_919 (by decide) ?_
  refine lv_iadd hx hb dL_law_920 ?_
  refine gx_cst (v := 1) (by decide) ?_
  refine va_sld hx hb hX hbl hbA hS (gx_vin rfl) dL_law_921 ?_
  refine gx_cst (v := (xs 1)) rfl ?_
  refine gx_ei (wc := ([((ad 0), .inr (4, [.ref (ad 1), .ref (ad 2), .ref (ad 3), .ref (ad 4), .ref (ad 5), .ref (ad 6), .ref (ad 7), .ref (ad 8), .ref (ad 9), .int 0])), ((ad 1), .inr (0, [.ref (ad 10), .ref (ad 11), .ref (ad 12), .ref (ad 13), .ref (ad 14), .ref (ad 15), .ref (ad 16), .ref (ad 17), .ref (ad 18), .int 0, .int 0, .int 0, .int 0, .int 1, .int 0, .int 0, .int 0])), ((ad 9), .inl (k 0, 5, .inl (fun _ => 0)))] : va_W)) (wr := [(hm, .inr (5, [.ref (am 1), .ref (am 2), .ref (am 3), .ref (am 4), .ref (am 5), .ref (am 6), .ref (am 7), .ref (am 8), .int 0, .ref (am 9), .int 0, .ref (am 10), .int 0, .ref (am 11), .ref (am 12), .int 0, .int 0, .int 1, .null, .null, .int 0, .int 0, .int 0, .long 0, .int 0, .ref (am 13), .int 0, .int 0, .int 0, .ref (am 14), .ref (am 15), .ref (am 16), .ref (am 17), .int 0, .ref (am 18), .ref (am 19), .ref (am 20)])), ((am 9), .inl (k 0, 8, .inl (fun _ => 0)))]) (isC := [0, 1, 2]) (isR := [3, 4]) hP hD hS hA rfl rfl (by decide) (by decide) (gx_runV (na := 1) (As := [.int (xs 1)]) (rest := []) (ci := 4) C hl.1 hK (gx_subP (wc := ([((ad 0), .inr (4, [.ref (ad 1), .ref (ad 2), .ref (ad 3), .ref (ad 4), .ref (ad 5), .ref (ad 6), .ref (ad 7), .ref (ad 8), .ref (ad 9), .int 0])), ((ad 1), .inr (0, [.ref (ad 10), .ref (ad 11), .ref (ad 12), .ref (ad 13), .ref (ad 14), .ref (ad 15), .ref (ad 16), .ref (ad 17), .ref (ad 18), .int 0, .int 0, .int 0, .int 0, .int 1, .int 0, .int 0, .int 0])), ((ad 9), .inl (k 0, 5, .inl (fun _ => 0)))] : va_W)) hP [0, 1, 2] rfl) ((hD.sub (ws' := ([((ad 0), .inr (4, [.ref (ad 1), .ref (ad 2), .ref (ad 3), .ref (ad 4), .ref (ad 5), .ref (ad 6), .ref (ad 7), .ref (ad 8), .ref (ad 9), .int 0])), ((ad 1), .inr (0, [.ref (ad 10), .ref (ad 11), .ref (ad 12), .ref (ad 13), .ref (ad 14), .ref (ad 15), .ref (ad 16), .ref (ad 17), .ref (ad 18), .int 0, .int 0, .int 0, .int 0, .int 1, .int 0, .int 0, .int 0])), ((ad 9), .inl (k 0, 5, .inl (fun _ => 0)))] : va_W)) [0, 1, 2] (by decide) rfl).weaken (fun _ _ _ _ => trivial)) (x_reach l D k ad (xs 1) _) gV_R_law_100 (by decide +kernel) rfl rfl ⟨Nat.le_of_ble_eq_true rfl, Nat.le_of_ble_eq_true rfl⟩ rfl rfl rfl rfl (Nat.le_of_ble_eq_true rfl) dL_law_922 ⟨Nat.le_of_ble_eq_true rfl, Nat.le_of_ble_eq_true rfl⟩) (fun r_3 u_1 H locs h_2 hP hD hS => ?_)
  have h_2 : r_3 = -2 := h_2
  have hP : va_P D gx_cl [(hm, .inr (5, [.ref (am 1), .ref (am 2), .ref (am 3), .ref (am 4), .ref (am 5), .ref (am 6), .ref (am 7), .ref (am 8), .int 0, .ref (am 9), .int 0, .ref (am 10), .int 0, .ref (am 11), .ref (am 12), .int 0, .int 0, .int 1, .null, .null, .int 0, .int 0, .int 0, .long 0, .int 0, .ref (am 13), .int 0, .int 0, .int 0, .ref (am 14), .ref (am 15), .ref (am 16), .ref (am 17), .int 0, .ref (am 18), .ref (am 19), .ref (am 20)])), ((am 9), .inl (k 0, 8, .inl (fun _ => 0)))] H := hP
  have hD : va_D A [(hm, .inr (5, [.ref (am 1), .ref (am 2), .ref (am 3), .ref (am 4), .ref (am 5), .ref (am 6), .ref (am 7), .ref (am 8), .int 0, .ref (am 9), .int 0, .ref (am 10), .int 0, .ref (am 11), .ref (am 12), .int 0, .int 0, .int 1, .null, .null, .int 0, .int 0, .int 0, .long 0, .int 0, .ref (am 13), .int 0, .int 0, .int 0, .ref (am 14), .ref (am 15), .ref (am 16), .ref (am 17), .int 0, .ref (am 18), .ref (am 19), .ref (am 20)])), ((am 9), .inl (k 0, 8, .inl (fun _ => 0)))] := hD
  refine lv_aload_n hx hb dL_law_925 rfl (lv_at hl 1 rfl) ?_
  refine lv_aload_n hx hb dL_law_926 rfl (lv_at hl 3 rfl) ?_
  refine lv_iload_n hx hb dL_law_927 rfl (lv_at hl 0 rfl) ?_
  refine lv_iconst (v := 1) hx hb dL_law_928 (by decide) ?_
  refine lv_iadd hx hb dL_law_929 ?_
  refine gx_cst (v := 1) (by decide) ?_
  refine va_sld hx hb hX hbl hbA hS (gx_vin rfl) dL_law_930 ?_
  refine gx_cst (v := (xs 1)) rfl ?_
  refine gx_ei (wc := ([(hm, .inr (5, [.ref (am 1), .ref (am 2), .ref (am 3), .ref (am 4), .ref (am 5), .ref (am 6), .ref (am 7), .ref (am 8), .int 0, .ref (am 9), .int 0, .ref (am 10), .int 0, .ref (am 11), .ref (am 12), .int 0, .int 0, .int 1, .null, .null, .int 0, .int 0, .int 0, .long 0, .int 0, .ref (am 13), .int 0, .int 0, .int 0, .ref (am 14), .ref (am 15), .ref (am 16), .ref (am 17), .int 0, .ref (am 18), .ref (am 19), .ref (am 20)])), ((am 9), .inl (k 0, 8, .inl (fun _ => 0)))] : va_W)) (wr := []) (isC := [0, 1]) (isR := []) hP hD hS hA rfl rfl (by decide) (by decide) (gx_runV (na := 1) (As := [.int (xs 1)]) (rest := [.int r_3]) (ci := 5) C hl.1 hK (gx_subP (wc := ([(hm, .inr (5, [.ref (am 1), .ref (am 2), .ref (am 3), .ref (am 4), .ref (am 5), .ref (am 6), .ref (am 7), .ref (am 8), .int 0, .ref (am 9), .int 0, .ref (am 10), .int 0, .ref (am 11), .ref (am 12), .int 0, .int 0, .int 1, .null, .null, .int 0, .int 0, .int 0, .long 0, .int 0, .ref (am 13), .int 0, .int 0, .int 0, .ref (am 14), .ref (am 15), .ref (am 16), .ref (am 17), .int 0, .ref (am 18), .ref (am 19), .ref (am 20)])), ((am 9), .inl (k 0, 8, .inl (fun _ => 0)))] : va_W)) hP [0, 1] rfl) ((hD.sub (ws' := ([(hm, .inr (5, [.ref (am 1), .ref (am 2), .ref (am 3), .ref (am 4), .ref (am 5), .ref (am 6), .ref (am 7), .ref (am 8), .int 0, .ref (am 9), .int 0, .ref (am 10), .int 0, .ref (am 11), .ref (am 12), .int 0, .int 0, .int 1, .null, .null, .int 0, .int 0, .int 0, .long 0, .int 0, .ref (am 13), .int 0, .int 0, .int 0, .ref (am 14), .ref (am 15), .ref (am 16), .ref (am 17), .int 0, .ref (am 18), .ref (am 19), .ref (am 20)])), ((am 9), .inl (k 0, 8, .inl (fun _ => 0)))] : va_W)) [0, 1] (by decide) rfl).weaken (fun _ _ _ _ => trivial)) (m_reach_pub l D k hm am (xs 1) _) gV_R_law_103 (by decide +kernel) rfl rfl ⟨Nat.le_of_ble_eq_true rfl, Nat.le_of_ble_eq_true rfl⟩ rfl rfl rfl rfl (Nat.le_of_ble_eq_true rfl) dL_law_931 ⟨Nat.le_of_ble_eq_true rfl, Nat.le_of_ble_eq_true rfl⟩) (fun r_7 u_5 H locs h_6 hP hD hS => ?_)
  have h_6 : r_7 = -2 := h_6
  have hP : va_P D gx_cl [] H := hP
  have hD : va_D A [] := hD
  refine lv_icmp_eq (tgt := 1806) hx hb dL_law_934 (by decide) (fun c_9 => ?_) (fun c_9 => absurd (h_2.trans h_6.symm) c_9)
  exact lc_next C0 hS (Nat.le_of_ble_eq_true rfl) (Nat.le_of_ble_eq_true rfl) (lv_sub hl [0, 3] rfl)
set_option maxHeartbeats 4000000 in
set_option maxRecDepth 100000 in
theorem lc_safe {p : Program} {l : Launch} {e : Env} {s : State} {m : MethodId} {below : List Frame} {meth : Method} {c : Code} {b : Nat} {xs : Nat → Int32} {D : va_G} {k : Nat → ClassId} {A : Nat → Prop} (C0 : lc_C p s m meth c b xs D k A) (ad : Nat → Nat) (hm : Nat) (am : Nat → Nat) (H : Heap) (locs : List Loc) (ls : Array Slot) (hP : va_P D gx_cl [((ad 0), .inr (4, [.ref (ad 1), .ref (ad 2), .ref (ad 3), .ref (ad 4), .ref (ad 5), .ref (ad 6), .ref (ad 7), .ref (ad 8), .ref (ad 9), .int 0])), ((ad 1), .inr (0, [.ref (ad 10), .ref (ad 11), .ref (ad 12), .ref (ad 13), .ref (ad 14), .ref (ad 15), .ref (ad 16), .ref (ad 17), .ref (ad 18), .int 0, .int 0, .int 0, .int 0, .int 1, .int 0, .int 0, .int 0])), ((ad 9), .inl (k 0, 5, .inl (fun _ => 0))), (hm, .inr (5, [.ref (am 1), .ref (am 2), .ref (am 3), .ref (am 4), .ref (am 5), .ref (am 6), .ref (am 7), .ref (am 8), .int 0, .ref (am 9), .int 0, .ref (am 10), .int 0, .ref (am 11), .ref (am 12), .int 0, .int 0, .int 1, .null, .null, .int 0, .int 0, .int 0, .long 0, .int 0, .ref (am 13), .int 0, .int 0, .int 0, .ref (am 14), .ref (am 15), .ref (am 16), .ref (am 17), .int 0, .ref (am 18), .ref (am 19), .ref (am 20)])), ((am 9), .inl (k 0, 8, .inl (fun _ => 0)))] H) (hD : va_D A [((ad 0), .inr (4, [.ref (ad 1), .ref (ad 2), .ref (ad 3), .ref (ad 4), .ref (ad 5), .ref (ad 6), .ref (ad 7), .ref (ad 8), .ref (ad 9), .int 0])), ((ad 1), .inr (0, [.ref (ad 10), .ref (ad 11), .ref (ad 12), .ref (ad 13), .ref (ad 14), .ref (ad 15), .ref (ad 16), .ref (ad 17), .ref (ad 18), .int 0, .int 0, .int 0, .int 0, .int 1, .int 0, .int 0, .int 0])), ((ad 9), .inl (k 0, 5, .inl (fun _ => 0))), (hm, .inr (5, [.ref (am 1), .ref (am 2), .ref (am 3), .ref (am 4), .ref (am 5), .ref (am 6), .ref (am 7), .ref (am 8), .int 0, .ref (am 9), .int 0, .ref (am 10), .int 0, .ref (am 11), .ref (am 12), .int 0, .int 0, .int 1, .null, .null, .int 0, .int 0, .int 0, .long 0, .int 0, .ref (am 13), .int 0, .int 0, .int 0, .ref (am 14), .ref (am 15), .ref (am 16), .ref (am 17), .int 0, .ref (am 18), .ref (am 19), .ref (am 20)])), ((am 9), .inl (k 0, 8, .inl (fun _ => 0)))]) (hS : va_S A s.heap H locs) (hl : lv_has ls 4 [(3, .int 0), (2, .ref hm), (1, .ref (ad 0)), (0, .ref b)]) : W p l e room_1 s m #[Value.ref b] below meth c H locs 1140 19699 (lw_Z below #[Value.ref b] s) (F0 m 939 ls []) := by
  obtain ⟨C, hK, hX, hbl, hA, hA2, hbA⟩ := id C0
  obtain ⟨hx, hb, hr, hml, hown, hT, hlk, -⟩ := id C
  refine lv_aload_n hx hb dL_law_939 rfl (lv_at hl 2 rfl) ?_
  refine lv_aload_n hx hb dL_law_940 rfl (lv_at hl 3 rfl) ?_
  refine lv_iload_n hx hb dL_law_941 rfl (lv_at hl 0 rfl) ?_
  refine lv_iconst (v := 1) hx hb dL_law_942 (by decide) ?_
  refine lv_iadd hx hb dL_law_943 ?_
  refine gx_cst (v := 1) (by decide) ?_
  refine va_sld hx hb hX hbl hbA hS (gx_vin rfl) dL_law_944 ?_
  refine gx_cst (v := (xs 1)) rfl ?_
  refine gx_ei (wc := ([((ad 0), .inr (4, [.ref (ad 1), .ref (ad 2), .ref (ad 3), .ref (ad 4), .ref (ad 5), .ref (ad 6), .ref (ad 7), .ref (ad 8), .ref (ad 9), .int 0])), ((ad 1), .inr (0, [.ref (ad 10), .ref (ad 11), .ref (ad 12), .ref (ad 13), .ref (ad 14), .ref (ad 15), .ref (ad 16), .ref (ad 17), .ref (ad 18), .int 0, .int 0, .int 0, .int 0, .int 1, .int 0, .int 0, .int 0])), ((ad 9), .inl (k 0, 5, .inl (fun _ => 0)))] : va_W)) (wr := [(hm, .inr (5, [.ref (am 1), .ref (am 2), .ref (am 3), .ref (am 4), .ref (am 5), .ref (am 6), .ref (am 7), .ref (am 8), .int 0, .ref (am 9), .int 0, .ref (am 10), .int 0, .ref (am 11), .ref (am 12), .int 0, .int 0, .int 1, .null, .null, .int 0, .int 0, .int 0, .long 0, .int 0, .ref (am 13), .int 0, .int 0, .int 0, .ref (am 14), .ref (am 15), .ref (am 16), .ref (am 17), .int 0, .ref (am 18), .ref (am 19), .ref (am 20)])), ((am 9), .inl (k 0, 8, .inl (fun _ => 0)))]) (isC := [0, 1, 2]) (isR := [3, 4]) hP hD hS hA rfl rfl (by decide) (by decide) (gx_runV (na := 1) (As := [.int (xs 1)]) (rest := []) (ci := 4) C hl.1 hK (gx_subP (wc := ([((ad 0), .inr (4, [.ref (ad 1), .ref (ad 2), .ref (ad 3), .ref (ad 4), .ref (ad 5), .ref (ad 6), .ref (ad 7), .ref (ad 8), .ref (ad 9), .int 0])), ((ad 1), .inr (0, [.ref (ad 10), .ref (ad 11), .ref (ad 12), .ref (ad 13), .ref (ad 14), .ref (ad 15), .ref (ad 16), .ref (ad 17), .ref (ad 18), .int 0, .int 0, .int 0, .int 0, .int 1, .int 0, .int 0, .int 0])), ((ad 9), .inl (k 0, 5, .inl (fun _ => 0)))] : va_W)) hP [0, 1, 2] rfl) ((hD.sub (ws' := ([((ad 0), .inr (4, [.ref (ad 1), .ref (ad 2), .ref (ad 3), .ref (ad 4), .ref (ad 5), .ref (ad 6), .ref (ad 7), .ref (ad 8), .ref (ad 9), .int 0])), ((ad 1), .inr (0, [.ref (ad 10), .ref (ad 11), .ref (ad 12), .ref (ad 13), .ref (ad 14), .ref (ad 15), .ref (ad 16), .ref (ad 17), .ref (ad 18), .int 0, .int 0, .int 0, .int 0, .int 1, .int 0, .int 0, .int 0])), ((ad 9), .inl (k 0, 5, .inl (fun _ => 0)))] : va_W)) [0, 1, 2] (by decide) rfl).weaken (fun _ _ _ _ => trivial)) (x_safe l D k ad (xs 1) _) gV_R_law_104 (by decide +kernel) rfl rfl ⟨Nat.le_of_ble_eq_true rfl, Nat.le_of_ble_eq_true rfl⟩ rfl rfl rfl rfl (Nat.le_of_ble_eq_true rfl) dL_law_945 ⟨Nat.le_of_ble_eq_true rfl, Nat.le_of_ble_eq_true rfl⟩) (fun r_3 u_1 H locs h_2 hP hD hS => ?_)
  have h_2 : r_3 = -2 := h_2
  have hP : va_P D gx_cl [(hm, .inr (5, [.ref (am 1), .ref (am 2), .ref (am 3), .ref (am 4), .ref (am 5), .ref (am 6), .ref (am 7), .ref (am 8), .int 0, .ref (am 9), .int 0, .ref (am 10), .int 0, .ref (am 11), .ref (am 12), .int 0, .int 0, .int 1, .null, .null, .int 0, .int 0, .int 0, .long 0, .int 0, .ref (am 13), .int 0, .int 0, .int 0, .ref (am 14), .ref (am 15), .ref (am 16), .ref (am 17), .int 0, .ref (am 18), .ref (am 19), .ref (am 20)])), ((am 9), .inl (k 0, 8, .inl (fun _ => 0)))] H := hP
  have hD : va_D A [(hm, .inr (5, [.ref (am 1), .ref (am 2), .ref (am 3), .ref (am 4), .ref (am 5), .ref (am 6), .ref (am 7), .ref (am 8), .int 0, .ref (am 9), .int 0, .ref (am 10), .int 0, .ref (am 11), .ref (am 12), .int 0, .int 0, .int 1, .null, .null, .int 0, .int 0, .int 0, .long 0, .int 0, .ref (am 13), .int 0, .int 0, .int 0, .ref (am 14), .ref (am 15), .ref (am 16), .ref (am 17), .int 0, .ref (am 18), .ref (am 19), .ref (am 20)])), ((am 9), .inl (k 0, 8, .inl (fun _ => 0)))] := hD
  refine lv_aload_n hx hb dL_law_948 rfl (lv_at hl 1 rfl) ?_
  refine lv_aload_n hx hb dL_law_949 rfl (lv_at hl 3 rfl) ?_
  refine lv_iload_n hx hb dL_law_950 rfl (lv_at hl 0 rfl) ?_
  refine lv_iconst (v := 1) hx hb dL_law_951 (by decide) ?_
  refine lv_iadd hx hb dL_law_952 ?_
  refine gx_cst (v := 1) (by decide) ?_
  refine va_sld hx hb hX hbl hbA hS (gx_vin rfl) dL_law_953 ?_
  refine gx_cst (v := (xs 1)) rfl ?_
  refine gx_ei (wc := ([(hm, .inr (5, [.ref (am 1), .ref (am 2), .ref (am 3), .ref (am 4), .ref (am 5), .ref (am 6), .ref (am 7), .ref (am 8), .int 0, .ref (am 9), .int 0, .ref (am 10), .int 0, .ref (am 11), .ref (am 12), .int 0, .int 0, .int 1, .null, .null, .int 0, .int 0, .int 0, .long 0, .int 0, .ref (am 13), .int 0, .int 0, .int 0, .ref (am 14), .ref (am 15), .ref (am 16), .ref (am 17), .int 0, .ref (am 18), .ref (am 19), .ref (am 20)])), ((am 9), .inl (k 0, 8, .inl (fun _ => 0)))] : va_W)) (wr := []) (isC := [0, 1]) (isR := []) hP hD hS hA rfl rfl (by decide) (by decide) (gx_runV (na := 1) (As := [.int (xs 1)]) (rest := [.int r_3]) (ci := 5) C hl.1 hK (gx_subP (wc := ([(hm, .inr (5, [.ref (am 1), .ref (am 2), .ref (am 3), .ref (am 4), .ref (am 5), .ref (am 6), .ref (am 7), .ref (am 8), .int 0, .ref (am 9), .int 0, .ref (am 10), .int 0, .ref (am 11), .ref (am 12), .int 0, .int 0, .int 1, .null, .null, .int 0, .int 0, .int 0, .long 0, .int 0, .ref (am 13), .int 0, .int 0, .int 0, .ref (am 14), .ref (am 15), .ref (am 16), .ref (am 17), .int 0, .ref (am 18), .ref (am 19), .ref (am 20)])), ((am 9), .inl (k 0, 8, .inl (fun _ => 0)))] : va_W)) hP [0, 1] rfl) ((hD.sub (ws' := ([(hm, .inr (5, [.ref (am 1), .ref (am 2), .ref (am 3), .ref (am 4), .ref (am 5), .ref (am 6), .ref (am 7), .ref (am 8), .int 0, .ref (am 9), .int 0, .ref (am 10), .int 0, .ref (am 11), .ref (am 12), .int 0, .int 0, .int 1, .null, .null, .int 0, .int 0, .int 0, .long 0, .int 0, .ref (am 13), .int 0, .int 0, .int 0, .ref (am 14), .ref (am 15), .ref (am 16), .ref (am 17), .int 0, .ref (am 18), .ref (am 19), .ref (am 20)])), ((am 9), .inl (k 0, 8, .inl (fun _ => 0)))] : va_W)) [0, 1] (by decide) rfl).weaken (fun _ _ _ _ => trivial)) (m_safe_pub l D k hm am (xs 1) _) gV_R_law_107 (by decide +kernel) rfl rfl ⟨Nat.le_of_ble_eq_true rfl, Nat.le_of_ble_eq_true rfl⟩ rfl rfl rfl rfl (Nat.le_of_ble_eq_true rfl) dL_law_954 ⟨Nat.le_of_ble_eq_true rfl, Nat.le_of_ble_eq_true rfl⟩) (fun r_7 u_5 H locs h_6 hP hD hS => ?_)
  have h_6 : r_7 = -2 := h_6
  have hP : va_P D gx_cl [] H := hP
  have hD : va_D A [] := hD
  refine lv_icmp_eq (tgt := 1806) hx hb dL_law_957 (by decide) (fun c_9 => ?_) (fun c_9 => absurd (h_2.trans h_6.symm) c_9)
  exact lc_next C0 hS (Nat.le_of_ble_eq_true rfl) (Nat.le_of_ble_eq_true rfl) (lv_sub hl [0, 3] rfl)
set_option maxHeartbeats 4000000 in
set_option maxRecDepth 100000 in
theorem lc_go {p : Program} {l : Launch} {e : Env} {s : State} {m : MethodId} {below : List Frame} {meth : Method} {c : Code} {b : Nat} {xs : Nat → Int32} {D : va_G} {k : Nat → ClassId} {A : Nat → Prop} (C0 : lc_C p s m meth c b xs D k A) (ad : Nat → Nat) (hm : Nat) (am : Nat → Nat) (H : Heap) (locs : List Loc) (ls : Array Slot) (hP : va_P D gx_cl [((ad 0), .inr (4, [.ref (ad 1), .ref (ad 2), .ref (ad 3), .ref (ad 4), .ref (ad 5), .ref (ad 6), .ref (ad 7), .ref (ad 8), .ref (ad 9), .int 0])), ((ad 1), .inr (0, [.ref (ad 10), .ref (ad 11), .ref (ad 12), .ref (ad 13), .ref (ad 14), .ref (ad 15), .ref (ad 16), .ref (ad 17), .ref (ad 18), .int 0, .int 0, .int 0, .int 0, .int 1, .int 0, .int 0, .int 0])), ((ad 9), .inl (k 0, 5, .inl (fun _ => 0))), (hm, .inr (5, [.ref (am 1), .ref (am 2), .ref (am 3), .ref (am 4), .ref (am 5), .ref (am 6), .ref (am 7), .ref (am 8), .int 0, .ref (am 9), .int 0, .ref (am 10), .int 0, .ref (am 11), .ref (am 12), .int 0, .int 0, .int 1, .null, .null, .int 0, .int 0, .int 0, .long 0, .int 0, .ref (am 13), .int 0, .int 0, .int 0, .ref (am 14), .ref (am 15), .ref (am 16), .ref (am 17), .int 0, .ref (am 18), .ref (am 19), .ref (am 20)])), ((am 9), .inl (k 0, 8, .inl (fun _ => 0)))] H) (hD : va_D A [((ad 0), .inr (4, [.ref (ad 1), .ref (ad 2), .ref (ad 3), .ref (ad 4), .ref (ad 5), .ref (ad 6), .ref (ad 7), .ref (ad 8), .ref (ad 9), .int 0])), ((ad 1), .inr (0, [.ref (ad 10), .ref (ad 11), .ref (ad 12), .ref (ad 13), .ref (ad 14), .ref (ad 15), .ref (ad 16), .ref (ad 17), .ref (ad 18), .int 0, .int 0, .int 0, .int 0, .int 1, .int 0, .int 0, .int 0])), ((ad 9), .inl (k 0, 5, .inl (fun _ => 0))), (hm, .inr (5, [.ref (am 1), .ref (am 2), .ref (am 3), .ref (am 4), .ref (am 5), .ref (am 6), .ref (am 7), .ref (am 8), .int 0, .ref (am 9), .int 0, .ref (am 10), .int 0, .ref (am 11), .ref (am 12), .int 0, .int 0, .int 1, .null, .null, .int 0, .int 0, .int 0, .long 0, .int 0, .ref (am 13), .int 0, .int 0, .int 0, .ref (am 14), .ref (am 15), .ref (am 16), .ref (am 17), .int 0, .ref (am 18), .ref (am 19), .ref (am 20)])), ((am 9), .inl (k 0, 8, .inl (fun _ => 0)))]) (hS : va_S A s.heap H locs) (hl : lv_has ls 4 [(3, .int 0), (2, .ref hm), (1, .ref (ad 0)), (0, .ref b)]) : W p l e room_1 s m #[Value.ref b] below meth c H locs 1140 19699 (lw_Z below #[Value.ref b] s) (F0 m 962 ls []) := by
  obtain ⟨C, hK, hX, hbl, hA, hA2, hbA⟩ := id C0
  obtain ⟨hx, hb, hr, hml, hown, hT, hlk, -⟩ := id C
  refine lv_aload_n hx hb dL_law_962 rfl (lv_at hl 2 rfl) ?_
  refine lv_aload_n hx hb dL_law_963 rfl (lv_at hl 3 rfl) ?_
  refine lv_iload_n hx hb dL_law_964 rfl (lv_at hl 0 rfl) ?_
  refine lv_iconst (v := 1) hx hb dL_law_965 (by decide) ?_
  refine lv_iadd hx hb dL_law_966 ?_
  refine gx_cst (v := 1) (by decide) ?_
  refine va_sld hx hb hX hbl hbA hS (gx_vin rfl) dL_law_967 ?_
  refine gx_cst (v := (xs 1)) rfl ?_
  refine lv_aload_n hx hb dL_law_968 rfl (lv_at hl 3 rfl) ?_
  refine lv_iload_n hx hb dL_law_969 rfl (lv_at hl 0 rfl) ?_
  refine lv_iconst (v := 2) hx hb dL_law_970 (by decide) ?_
  refine lv_iadd hx hb dL_law_971 ?_
  refine gx_cst (v := 2) (by decide) ?_
  refine va_sld hx hb hX hbl hbA hS (gx_vin rfl) dL_law_972 ?_
  refine gx_cst (v := (xs 2)) rfl ?_
  refine gx_ei (wc := ([((ad 0), .inr (4, [.ref (ad 1), .ref (ad 2), .ref (ad 3), .ref (ad 4), .ref (ad 5), .ref (ad 6), .ref (ad 7), .ref (ad 8), .ref (ad 9), .int 0])), ((ad 1), .inr (0, [.ref (ad 10), .ref (ad 11), .ref (ad 12), .ref (ad 13), .ref (ad 14), .ref (ad 15), .ref (ad 16), .ref (ad 17), .ref (ad 18), .int 0, .int 0, .int 0, .int 0, .int 1, .int 0, .int 0, .int 0])), ((ad 9), .inl (k 0, 5, .inl (fun _ => 0)))] : va_W)) (wr := [(hm, .inr (5, [.ref (am 1), .ref (am 2), .ref (am 3), .ref (am 4), .ref (am 5), .ref (am 6), .ref (am 7), .ref (am 8), .int 0, .ref (am 9), .int 0, .ref (am 10), .int 0, .ref (am 11), .ref (am 12), .int 0, .int 0, .int 1, .null, .null, .int 0, .int 0, .int 0, .long 0, .int 0, .ref (am 13), .int 0, .int 0, .int 0, .ref (am 14), .ref (am 15), .ref (am 16), .ref (am 17), .int 0, .ref (am 18), .ref (am 19), .ref (am 20)])), ((am 9), .inl (k 0, 8, .inl (fun _ => 0)))]) (isC := [0, 1, 2]) (isR := [3, 4]) hP hD hS hA rfl rfl (by decide) (by decide) (gx_runV (na := 2) (As := [.int (xs 1), .int (xs 2)]) (rest := []) (ci := 4) C hl.1 hK (gx_subP (wc := ([((ad 0), .inr (4, [.ref (ad 1), .ref (ad 2), .ref (ad 3), .ref (ad 4), .ref (ad 5), .ref (ad 6), .ref (ad 7), .ref (ad 8), .ref (ad 9), .int 0])), ((ad 1), .inr (0, [.ref (ad 10), .ref (ad 11), .ref (ad 12), .ref (ad 13), .ref (ad 14), .ref (ad 15), .ref (ad 16), .ref (ad 17), .ref (ad 18), .int 0, .int 0, .int 0, .int 0, .int 1, .int 0, .int 0, .int 0])), ((ad 9), .inl (k 0, 5, .inl (fun _ => 0)))] : va_W)) hP [0, 1, 2] rfl) ((hD.sub (ws' := ([((ad 0), .inr (4, [.ref (ad 1), .ref (ad 2), .ref (ad 3), .ref (ad 4), .ref (ad 5), .ref (ad 6), .ref (ad 7), .ref (ad 8), .ref (ad 9), .int 0])), ((ad 1), .inr (0, [.ref (ad 10), .ref (ad 11), .ref (ad 12), .ref (ad 13), .ref (ad 14), .ref (ad 15), .ref (ad 16), .ref (ad 17), .ref (ad 18), .int 0, .int 0, .int 0, .int 0, .int 1, .int 0, .int 0, .int 0])), ((ad 9), .inl (k 0, 5, .inl (fun _ => 0)))] : va_W)) [0, 1, 2] (by decide) rfl).weaken (fun _ _ _ _ => trivial)) (x_go l D k ad (xs 1) (xs 2) _) gV_R_law_108 (by decide +kernel) rfl rfl ⟨Nat.le_of_ble_eq_true rfl, Nat.le_of_ble_eq_true rfl⟩ rfl rfl rfl rfl (Nat.le_of_ble_eq_true rfl) dL_law_973 ⟨Nat.le_of_ble_eq_true rfl, Nat.le_of_ble_eq_true rfl⟩) (fun r_3 u_1 H locs h_2 hP hD hS => ?_)
  have h_2 : r_3 = -2 := h_2
  have hP : va_P D gx_cl [(hm, .inr (5, [.ref (am 1), .ref (am 2), .ref (am 3), .ref (am 4), .ref (am 5), .ref (am 6), .ref (am 7), .ref (am 8), .int 0, .ref (am 9), .int 0, .ref (am 10), .int 0, .ref (am 11), .ref (am 12), .int 0, .int 0, .int 1, .null, .null, .int 0, .int 0, .int 0, .long 0, .int 0, .ref (am 13), .int 0, .int 0, .int 0, .ref (am 14), .ref (am 15), .ref (am 16), .ref (am 17), .int 0, .ref (am 18), .ref (am 19), .ref (am 20)])), ((am 9), .inl (k 0, 8, .inl (fun _ => 0)))] H := hP
  have hD : va_D A [(hm, .inr (5, [.ref (am 1), .ref (am 2), .ref (am 3), .ref (am 4), .ref (am 5), .ref (am 6), .ref (am 7), .ref (am 8), .int 0, .ref (am 9), .int 0, .ref (am 10), .int 0, .ref (am 11), .ref (am 12), .int 0, .int 0, .int 1, .null, .null, .int 0, .int 0, .int 0, .long 0, .int 0, .ref (am 13), .int 0, .int 0, .int 0, .ref (am 14), .ref (am 15), .ref (am 16), .ref (am 17), .int 0, .ref (am 18), .ref (am 19), .ref (am 20)])), ((am 9), .inl (k 0, 8, .inl (fun _ => 0)))] := hD
  refine lv_aload_n hx hb dL_law_976 rfl (lv_at hl 1 rfl) ?_
  refine lv_aload_n hx hb dL_law_977 rfl (lv_at hl 3 rfl) ?_
  refine lv_iload_n hx hb dL_law_978 rfl (lv_at hl 0 rfl) ?_
  refine lv_iconst (v := 1) hx hb dL_law_979 (by decide) ?_
  refine lv_iadd hx hb dL_law_980 ?_
  refine gx_cst (v := 1) (by decide) ?_
  refine va_sld hx hb hX hbl hbA hS (gx_vin rfl) dL_law_981 ?_
  refine gx_cst (v := (xs 1)) rfl ?_
  refine lv_aload_n hx hb dL_law_982 rfl (lv_at hl 3 rfl) ?_
  refine lv_iload_n hx hb dL_law_983 rfl (lv_at hl 0 rfl) ?_
  refine lv_iconst (v := 2) hx hb dL_law_984 (by decide) ?_
  refine lv_iadd hx hb dL_law_985 ?_
  refine gx_cst (v := 2) (by decide) ?_
  refine va_sld hx hb hX hbl hbA hS (gx_vin rfl) dL_law_986 ?_
  refine gx_cst (v := (xs 2)) rfl ?_
  refine gx_ei (wc := ([(hm, .inr (5, [.ref (am 1), .ref (am 2), .ref (am 3), .ref (am 4), .ref (am 5), .ref (am 6), .ref (am 7), .ref (am 8), .int 0, .ref (am 9), .int 0, .ref (am 10), .int 0, .ref (am 11), .ref (am 12), .int 0, .int 0, .int 1, .null, .null, .int 0, .int 0, .int 0, .long 0, .int 0, .ref (am 13), .int 0, .int 0, .int 0, .ref (am 14), .ref (am 15), .ref (am 16), .ref (am 17), .int 0, .ref (am 18), .ref (am 19), .ref (am 20)])), ((am 9), .inl (k 0, 8, .inl (fun _ => 0)))] : va_W)) (wr := []) (isC := [0, 1]) (isR := []) hP hD hS hA rfl rfl (by decide) (by decide) (gx_runV (na := 2) (As := [.int (xs 1), .int (xs 2)]) (rest := [.int r_3]) (ci := 5) C hl.1 hK (gx_subP (wc := ([(hm, .inr (5, [.ref (am 1), .ref (am 2), .ref (am 3), .ref (am 4), .ref (am 5), .ref (am 6), .ref (am 7), .ref (am 8), .int 0, .ref (am 9), .int 0, .ref (am 10), .int 0, .ref (am 11), .ref (am 12), .int 0, .int 0, .int 1, .null, .null, .int 0, .int 0, .int 0, .long 0, .int 0, .ref (am 13), .int 0, .int 0, .int 0, .ref (am 14), .ref (am 15), .ref (am 16), .ref (am 17), .int 0, .ref (am 18), .ref (am 19), .ref (am 20)])), ((am 9), .inl (k 0, 8, .inl (fun _ => 0)))] : va_W)) hP [0, 1] rfl) ((hD.sub (ws' := ([(hm, .inr (5, [.ref (am 1), .ref (am 2), .ref (am 3), .ref (am 4), .ref (am 5), .ref (am 6), .ref (am 7), .ref (am 8), .int 0, .ref (am 9), .int 0, .ref (am 10), .int 0, .ref (am 11), .ref (am 12), .int 0, .int 0, .int 1, .null, .null, .int 0, .int 0, .int 0, .long 0, .int 0, .ref (am 13), .int 0, .int 0, .int 0, .ref (am 14), .ref (am 15), .ref (am 16), .ref (am 17), .int 0, .ref (am 18), .ref (am 19), .ref (am 20)])), ((am 9), .inl (k 0, 8, .inl (fun _ => 0)))] : va_W)) [0, 1] (by decide) rfl).weaken (fun _ _ _ _ => trivial)) (m_go_pub l D k hm am (xs 1) (xs 2) _) gV_R_law_111 (by decide +kernel) rfl rfl ⟨Nat.le_of_ble_eq_true rfl, Nat.le_of_ble_eq_true rfl⟩ rfl rfl rfl rfl (Nat.le_of_ble_eq_true rfl) dL_law_987 ⟨Nat.le_of_ble_eq_true rfl, Nat.le_of_ble_eq_true rfl⟩) (fun r_7 u_5 H locs h_6 hP hD hS => ?_)
  have h_6 : r_7 = -2 := h_6
  have hP : va_P D gx_cl [] H := hP
  have hD : va_D A [] := hD
  refine lv_icmp_eq (tgt := 1806) hx hb dL_law_990 (by decide) (fun c_9 => ?_) (fun c_9 => absurd (h_2.trans h_6.symm) c_9)
  exact lc_next C0 hS (Nat.le_of_ble_eq_true rfl) (Nat.le_of_ble_eq_true rfl) (lv_sub hl [0, 3] rfl)
set_option maxHeartbeats 4000000 in
set_option maxRecDepth 100000 in
theorem lc_year {p : Program} {l : Launch} {e : Env} {s : State} {m : MethodId} {below : List Frame} {meth : Method} {c : Code} {b : Nat} {xs : Nat → Int32} {D : va_G} {k : Nat → ClassId} {A : Nat → Prop} (C0 : lc_C p s m meth c b xs D k A) (ad : Nat → Nat) (hm : Nat) (am : Nat → Nat) (H : Heap) (locs : List Loc) (ls : Array Slot) (hP : va_P D gx_cl [((ad 0), .inr (4, [.ref (ad 1), .ref (ad 2), .ref (ad 3), .ref (ad 4), .ref (ad 5), .ref (ad 6), .ref (ad 7), .ref (ad 8), .ref (ad 9), .int 0])), ((ad 1), .inr (0, [.ref (ad 10), .ref (ad 11), .ref (ad 12), .ref (ad 13), .ref (ad 14), .ref (ad 15), .ref (ad 16), .ref (ad 17), .ref (ad 18), .int 0, .int 0, .int 0, .int 0, .int 1, .int 0, .int 0, .int 0])), (hm, .inr (5, [.ref (am 1), .ref (am 2), .ref (am 3), .ref (am 4), .ref (am 5), .ref (am 6), .ref (am 7), .ref (am 8), .int 0, .ref (am 9), .int 0, .ref (am 10), .int 0, .ref (am 11), .ref (am 12), .int 0, .int 0, .int 1, .null, .null, .int 0, .int 0, .int 0, .long 0, .int 0, .ref (am 13), .int 0, .int 0, .int 0, .ref (am 14), .ref (am 15), .ref (am 16), .ref (am 17), .int 0, .ref (am 18), .ref (am 19), .ref (am 20)]))] H) (hD : va_D A [((ad 0), .inr (4, [.ref (ad 1), .ref (ad 2), .ref (ad 3), .ref (ad 4), .ref (ad 5), .ref (ad 6), .ref (ad 7), .ref (ad 8), .ref (ad 9), .int 0])), ((ad 1), .inr (0, [.ref (ad 10), .ref (ad 11), .ref (ad 12), .ref (ad 13), .ref (ad 14), .ref (ad 15), .ref (ad 16), .ref (ad 17), .ref (ad 18), .int 0, .int 0, .int 0, .int 0, .int 1, .int 0, .int 0, .int 0])), (hm, .inr (5, [.ref (am 1), .ref (am 2), .ref (am 3), .ref (am 4), .ref (am 5), .ref (am 6), .ref (am 7), .ref (am 8), .int 0, .ref (am 9), .int 0, .ref (am 10), .int 0, .ref (am 11), .ref (am 12), .int 0, .int 0, .int 1, .null, .null, .int 0, .int 0, .int 0, .long 0, .int 0, .ref (am 13), .int 0, .int 0, .int 0, .ref (am 14), .ref (am 15), .ref (am 16), .ref (am 17), .int 0, .ref (am 18), .ref (am 19), .ref (am 20)]))]) (hS : va_S A s.heap H locs) (hl : lv_has ls 4 [(3, .int 0), (2, .ref hm), (1, .ref (ad 0)), (0, .ref b)]) : W p l e room_1 s m #[Value.ref b] below meth c H locs 1140 19699 (lw_Z below #[Value.ref b] s) (F0 m 995 ls []) := by
  obtain ⟨C, hK, hX, hbl, hA, hA2, hbA⟩ := id C0
  obtain ⟨hx, hb, hr, hml, hown, hT, hlk, -⟩ := id C
  refine lv_aload_n hx hb dL_law_995 rfl (lv_at hl 2 rfl) ?_
  refine gx_ei (wc := ([((ad 0), .inr (4, [.ref (ad 1), .ref (ad 2), .ref (ad 3), .ref (ad 4), .ref (ad 5), .ref (ad 6), .ref (ad 7), .ref (ad 8), .ref (ad 9), .int 0])), ((ad 1), .inr (0, [.ref (ad 10), .ref (ad 11), .ref (ad 12), .ref (ad 13), .ref (ad 14), .ref (ad 15), .ref (ad 16), .ref (ad 17), .ref (ad 18), .int 0, .int 0, .int 0, .int 0, .int 1, .int 0, .int 0, .int 0]))] : va_W)) (wr := [(hm, .inr (5, [.ref (am 1), .ref (am 2), .ref (am 3), .ref (am 4), .ref (am 5), .ref (am 6), .ref (am 7), .ref (am 8), .int 0, .ref (am 9), .int 0, .ref (am 10), .int 0, .ref (am 11), .ref (am 12), .int 0, .int 0, .int 1, .null, .null, .int 0, .int 0, .int 0, .long 0, .int 0, .ref (am 13), .int 0, .int 0, .int 0, .ref (am 14), .ref (am 15), .ref (am 16), .ref (am 17), .int 0, .ref (am 18), .ref (am 19), .ref (am 20)]))]) (isC := [0, 1]) (isR := [2]) hP hD hS hA rfl rfl (by decide) (by decide) (gx_runV (na := 0) (As := []) (rest := []) (ci := 4) C hl.1 hK (gx_subP (wc := ([((ad 0), .inr (4, [.ref (ad 1), .ref (ad 2), .ref (ad 3), .ref (ad 4), .ref (ad 5), .ref (ad 6), .ref (ad 7), .ref (ad 8), .ref (ad 9), .int 0])), ((ad 1), .inr (0, [.ref (ad 10), .ref (ad 11), .ref (ad 12), .ref (ad 13), .ref (ad 14), .ref (ad 15), .ref (ad 16), .ref (ad 17), .ref (ad 18), .int 0, .int 0, .int 0, .int 0, .int 1, .int 0, .int 0, .int 0]))] : va_W)) hP [0, 1] rfl) ((hD.sub (ws' := ([((ad 0), .inr (4, [.ref (ad 1), .ref (ad 2), .ref (ad 3), .ref (ad 4), .ref (ad 5), .ref (ad 6), .ref (ad 7), .ref (ad 8), .ref (ad 9), .int 0])), ((ad 1), .inr (0, [.ref (ad 10), .ref (ad 11), .ref (ad 12), .ref (ad 13), .ref (ad 14), .ref (ad 15), .ref (ad 16), .ref (ad 17), .ref (ad 18), .int 0, .int 0, .int 0, .int 0, .int 1, .int 0, .int 0, .int 0]))] : va_W)) [0, 1] (by decide) rfl).weaken (fun _ _ _ _ => trivial)) (x_year l D k ad _) gV_R_law_112 (by decide +kernel) rfl rfl ⟨Nat.le_of_ble_eq_true rfl, Nat.le_of_ble_eq_true rfl⟩ rfl rfl rfl rfl (Nat.le_of_ble_eq_true rfl) dL_law_996 ⟨Nat.le_of_ble_eq_true rfl, Nat.le_of_ble_eq_true rfl⟩) (fun r_3 u_1 H locs h_2 hP hD hS => ?_)
  have h_2 : r_3 = 1 := h_2
  have hP : va_P D gx_cl [(hm, .inr (5, [.ref (am 1), .ref (am 2), .ref (am 3), .ref (am 4), .ref (am 5), .ref (am 6), .ref (am 7), .ref (am 8), .int 0, .ref (am 9), .int 0, .ref (am 10), .int 0, .ref (am 11), .ref (am 12), .int 0, .int 0, .int 1, .null, .null, .int 0, .int 0, .int 0, .long 0, .int 0, .ref (am 13), .int 0, .int 0, .int 0, .ref (am 14), .ref (am 15), .ref (am 16), .ref (am 17), .int 0, .ref (am 18), .ref (am 19), .ref (am 20)]))] H := hP
  have hD : va_D A [(hm, .inr (5, [.ref (am 1), .ref (am 2), .ref (am 3), .ref (am 4), .ref (am 5), .ref (am 6), .ref (am 7), .ref (am 8), .int 0, .ref (am 9), .int 0, .ref (am 10), .int 0, .ref (am 11), .ref (am 12), .int 0, .int 0, .int 1, .null, .null, .int 0, .int 0, .int 0, .long 0, .int 0, .ref (am 13), .int 0, .int 0, .int 0, .ref (am 14), .ref (am 15), .ref (am 16), .ref (am 17), .int 0, .ref (am 18), .ref (am 19), .ref (am 20)]))] := hD
  refine lv_aload_n hx hb dL_law_999 rfl (lv_at hl 1 rfl) ?_
  refine gx_ei (wc := ([(hm, .inr (5, [.ref (am 1), .ref (am 2), .ref (am 3), .ref (am 4), .ref (am 5), .ref (am 6), .ref (am 7), .ref (am 8), .int 0, .ref (am 9), .int 0, .ref (am 10), .int 0, .ref (am 11), .ref (am 12), .int 0, .int 0, .int 1, .null, .null, .int 0, .int 0, .int 0, .long 0, .int 0, .ref (am 13), .int 0, .int 0, .int 0, .ref (am 14), .ref (am 15), .ref (am 16), .ref (am 17), .int 0, .ref (am 18), .ref (am 19), .ref (am 20)]))] : va_W)) (wr := []) (isC := [0]) (isR := []) hP hD hS hA rfl rfl (by decide) (by decide) (gx_runV (na := 0) (As := []) (rest := [.int r_3]) (ci := 5) C hl.1 hK (gx_subP (wc := ([(hm, .inr (5, [.ref (am 1), .ref (am 2), .ref (am 3), .ref (am 4), .ref (am 5), .ref (am 6), .ref (am 7), .ref (am 8), .int 0, .ref (am 9), .int 0, .ref (am 10), .int 0, .ref (am 11), .ref (am 12), .int 0, .int 0, .int 1, .null, .null, .int 0, .int 0, .int 0, .long 0, .int 0, .ref (am 13), .int 0, .int 0, .int 0, .ref (am 14), .ref (am 15), .ref (am 16), .ref (am 17), .int 0, .ref (am 18), .ref (am 19), .ref (am 20)]))] : va_W)) hP [0] rfl) ((hD.sub (ws' := ([(hm, .inr (5, [.ref (am 1), .ref (am 2), .ref (am 3), .ref (am 4), .ref (am 5), .ref (am 6), .ref (am 7), .ref (am 8), .int 0, .ref (am 9), .int 0, .ref (am 10), .int 0, .ref (am 11), .ref (am 12), .int 0, .int 0, .int 1, .null, .null, .int 0, .int 0, .int 0, .long 0, .int 0, .ref (am 13), .int 0, .int 0, .int 0, .ref (am 14), .ref (am 15), .ref (am 16), .ref (am 17), .int 0, .ref (am 18), .ref (am 19), .ref (am 20)]))] : va_W)) [0] (by decide) rfl).weaken (fun _ _ _ _ => trivial)) (m_year_pub l D k hm am _) gV_R_law_115 (by decide +kernel) rfl rfl ⟨Nat.le_of_ble_eq_true rfl, Nat.le_of_ble_eq_true rfl⟩ rfl rfl rfl rfl (Nat.le_of_ble_eq_true rfl) dL_law_1000 ⟨Nat.le_of_ble_eq_true rfl, Nat.le_of_ble_eq_true rfl⟩) (fun r_7 u_5 H locs h_6 hP hD hS => ?_)
  have h_6 : r_7 = 1 := h_6
  have hP : va_P D gx_cl [] H := hP
  have hD : va_D A [] := hD
  refine lv_icmp_eq (tgt := 1806) hx hb dL_law_1003 (by decide) (fun c_9 => ?_) (fun c_9 => absurd (h_2.trans h_6.symm) c_9)
  exact lc_next C0 hS (Nat.le_of_ble_eq_true rfl) (Nat.le_of_ble_eq_true rfl) (lv_sub hl [0, 3] rfl)
set_option maxHeartbeats 4000000 in
set_option maxRecDepth 100000 in
theorem lc_nextQ {p : Program} {l : Launch} {e : Env} {s : State} {m : MethodId} {below : List Frame} {meth : Method} {c : Code} {b : Nat} {xs : Nat → Int32} {D : va_G} {k : Nat → ClassId} {A : Nat → Prop} (C0 : lc_C p s m meth c b xs D k A) (ad : Nat → Nat) (hm : Nat) (am : Nat → Nat) (H : Heap) (locs : List Loc) (ls : Array Slot) (hP : va_P D gx_cl [((ad 0), .inr (4, [.ref (ad 1), .ref (ad 2), .ref (ad 3), .ref (ad 4), .ref (ad 5), .ref (ad 6), .ref (ad 7), .ref (ad 8), .ref (ad 9), .int 0])), ((ad 1), .inr (0, [.ref (ad 10), .ref (ad 11), .ref (ad 12), .ref (ad 13), .ref (ad 14), .ref (ad 15), .ref (ad 16), .ref (ad 17), .ref (ad 18), .int 0, .int 0, .int 0, .int 0, .int 1, .int 0, .int 0, .int 0])), ((ad 9), .inl (k 0, 5, .inl (fun _ => 0))), (hm, .inr (5, [.ref (am 1), .ref (am 2), .ref (am 3), .ref (am 4), .ref (am 5), .ref (am 6), .ref (am 7), .ref (am 8), .int 0, .ref (am 9), .int 0, .ref (am 10), .int 0, .ref (am 11), .ref (am 12), .int 0, .int 0, .int 1, .null, .null, .int 0, .int 0, .int 0, .long 0, .int 0, .ref (am 13), .int 0, .int 0, .int 0, .ref (am 14), .ref (am 15), .ref (am 16), .ref (am 17), .int 0, .ref (am 18), .ref (am 19), .ref (am 20)])), ((am 9), .inl (k 0, 8, .inl (fun _ => 0)))] H) (hD : va_D A [((ad 0), .inr (4, [.ref (ad 1), .ref (ad 2), .ref (ad 3), .ref (ad 4), .ref (ad 5), .ref (ad 6), .ref (ad 7), .ref (ad 8), .ref (ad 9), .int 0])), ((ad 1), .inr (0, [.ref (ad 10), .ref (ad 11), .ref (ad 12), .ref (ad 13), .ref (ad 14), .ref (ad 15), .ref (ad 16), .ref (ad 17), .ref (ad 18), .int 0, .int 0, .int 0, .int 0, .int 1, .int 0, .int 0, .int 0])), ((ad 9), .inl (k 0, 5, .inl (fun _ => 0))), (hm, .inr (5, [.ref (am 1), .ref (am 2), .ref (am 3), .ref (am 4), .ref (am 5), .ref (am 6), .ref (am 7), .ref (am 8), .int 0, .ref (am 9), .int 0, .ref (am 10), .int 0, .ref (am 11), .ref (am 12), .int 0, .int 0, .int 1, .null, .null, .int 0, .int 0, .int 0, .long 0, .int 0, .ref (am 13), .int 0, .int 0, .int 0, .ref (am 14), .ref (am 15), .ref (am 16), .ref (am 17), .int 0, .ref (am 18), .ref (am 19), .ref (am 20)])), ((am 9), .inl (k 0, 8, .inl (fun _ => 0)))]) (hS : va_S A s.heap H locs) (hl : lv_has ls 4 [(3, .int 0), (2, .ref hm), (1, .ref (ad 0)), (0, .ref b)]) : W p l e room_1 s m #[Value.ref b] below meth c H locs 1140 19699 (lw_Z below #[Value.ref b] s) (F0 m 1008 ls []) := by
  obtain ⟨C, hK, hX, hbl, hA, hA2, hbA⟩ := id C0
  obtain ⟨hx, hb, hr, hml, hown, hT, hlk, -⟩ := id C
  refine lv_aload_n hx hb dL_law_1008 rfl (lv_at hl 2 rfl) ?_
  refine lv_aload_n hx hb dL_law_1009 rfl (lv_at hl 3 rfl) ?_
  refine lv_iload_n hx hb dL_law_1010 rfl (lv_at hl 0 rfl) ?_
  refine lv_iconst (v := 1) hx hb dL_law_1011 (by decide) ?_
  refine lv_iadd hx hb dL_law_1012 ?_
  refine gx_cst (v := 1) (by decide) ?_
  refine va_sld hx hb hX hbl hbA hS (gx_vin rfl) dL_law_1013 ?_
  refine gx_cst (v := (xs 1)) rfl ?_
  refine lv_aload_n hx hb dL_law_1014 rfl (lv_at hl 3 rfl) ?_
  refine lv_iload_n hx hb dL_law_1015 rfl (lv_at hl 0 rfl) ?_
  refine lv_iconst (v := 2) hx hb dL_law_1016 (by decide) ?_
  refine lv_iadd hx hb dL_law_1017 ?_
  refine gx_cst (v := 2) (by decide) ?_
  refine va_sld hx hb hX hbl hbA hS (gx_vin rfl) dL_law_1018 ?_
  refine gx_cst (v := (xs 2)) rfl ?_
  refine gx_ei (wc := ([((ad 0), .inr (4, [.ref (ad 1), .ref (ad 2), .ref (ad 3), .ref (ad 4), .ref (ad 5), .ref (ad 6), .ref (ad 7), .ref (ad 8), .ref (ad 9), .int 0])), ((ad 1), .inr (0, [.ref (ad 10), .ref (ad 11), .ref (ad 12), .ref (ad 13), .ref (ad 14), .ref (ad 15), .ref (ad 16), .ref (ad 17), .ref (ad 18), .int 0, .int 0, .int 0, .int 0, .int 1, .int 0, .int 0, .int 0])), ((ad 9), .inl (k 0, 5, .inl (fun _ => 0)))] : va_W)) (wr := [(hm, .inr (5, [.ref (am 1), .ref (am 2), .ref (am 3), .ref (am 4), .ref (am 5), .ref (am 6), .ref (am 7), .ref (am 8), .int 0, .ref (am 9), .int 0, .ref (am 10), .int 0, .ref (am 11), .ref (am 12), .int 0, .int 0, .int 1, .null, .null, .int 0, .int 0, .int 0, .long 0, .int 0, .ref (am 13), .int 0, .int 0, .int 0, .ref (am 14), .ref (am 15), .ref (am 16), .ref (am 17), .int 0, .ref (am 18), .ref (am 19), .ref (am 20)])), ((am 9), .inl (k 0, 8, .inl (fun _ => 0)))]) (isC := [0, 1, 2]) (isR := [3, 4]) hP hD hS hA rfl rfl (by decide) (by decide) (gx_runV (na := 2) (As := [.int (xs 1), .int (xs 2)]) (rest := []) (ci := 4) C hl.1 hK (gx_subP (wc := ([((ad 0), .inr (4, [.ref (ad 1), .ref (ad 2), .ref (ad 3), .ref (ad 4), .ref (ad 5), .ref (ad 6), .ref (ad 7), .ref (ad 8), .ref (ad 9), .int 0])), ((ad 1), .inr (0, [.ref (ad 10), .ref (ad 11), .ref (ad 12), .ref (ad 13), .ref (ad 14), .ref (ad 15), .ref (ad 16), .ref (ad 17), .ref (ad 18), .int 0, .int 0, .int 0, .int 0, .int 1, .int 0, .int 0, .int 0])), ((ad 9), .inl (k 0, 5, .inl (fun _ => 0)))] : va_W)) hP [0, 1, 2] rfl) ((hD.sub (ws' := ([((ad 0), .inr (4, [.ref (ad 1), .ref (ad 2), .ref (ad 3), .ref (ad 4), .ref (ad 5), .ref (ad 6), .ref (ad 7), .ref (ad 8), .ref (ad 9), .int 0])), ((ad 1), .inr (0, [.ref (ad 10), .ref (ad 11), .ref (ad 12), .ref (ad 13), .ref (ad 14), .ref (ad 15), .ref (ad 16), .ref (ad 17), .ref (ad 18), .int 0, .int 0, .int 0, .int 0, .int 1, .int 0, .int 0, .int 0])), ((ad 9), .inl (k 0, 5, .inl (fun _ => 0)))] : va_W)) [0, 1, 2] (by decide) rfl).weaken (fun _ _ _ _ => trivial)) (x_next l D k ad (xs 1) (xs 2) _) gV_R_law_116 (by decide +kernel) rfl rfl ⟨Nat.le_of_ble_eq_true rfl, Nat.le_of_ble_eq_true rfl⟩ rfl rfl rfl rfl (Nat.le_of_ble_eq_true rfl) dL_law_1019 ⟨Nat.le_of_ble_eq_true rfl, Nat.le_of_ble_eq_true rfl⟩) (fun r_3 u_1 H locs h_2 hP hD hS => ?_)
  have h_2 : r_3 = -2 := h_2
  have hP : va_P D gx_cl [(hm, .inr (5, [.ref (am 1), .ref (am 2), .ref (am 3), .ref (am 4), .ref (am 5), .ref (am 6), .ref (am 7), .ref (am 8), .int 0, .ref (am 9), .int 0, .ref (am 10), .int 0, .ref (am 11), .ref (am 12), .int 0, .int 0, .int 1, .null, .null, .int 0, .int 0, .int 0, .long 0, .int 0, .ref (am 13), .int 0, .int 0, .int 0, .ref (am 14), .ref (am 15), .ref (am 16), .ref (am 17), .int 0, .ref (am 18), .ref (am 19), .ref (am 20)])), ((am 9), .inl (k 0, 8, .inl (fun _ => 0)))] H := hP
  have hD : va_D A [(hm, .inr (5, [.ref (am 1), .ref (am 2), .ref (am 3), .ref (am 4), .ref (am 5), .ref (am 6), .ref (am 7), .ref (am 8), .int 0, .ref (am 9), .int 0, .ref (am 10), .int 0, .ref (am 11), .ref (am 12), .int 0, .int 0, .int 1, .null, .null, .int 0, .int 0, .int 0, .long 0, .int 0, .ref (am 13), .int 0, .int 0, .int 0, .ref (am 14), .ref (am 15), .ref (am 16), .ref (am 17), .int 0, .ref (am 18), .ref (am 19), .ref (am 20)])), ((am 9), .inl (k 0, 8, .inl (fun _ => 0)))] := hD
  refine lv_aload_n hx hb dL_law_1022 rfl (lv_at hl 1 rfl) ?_
  refine lv_aload_n hx hb dL_law_1023 rfl (lv_at hl 3 rfl) ?_
  refine lv_iload_n hx hb dL_law_1024 rfl (lv_at hl 0 rfl) ?_
  refine lv_iconst (v := 1) hx hb dL_law_1025 (by decide) ?_
  refine lv_iadd hx hb dL_law_1026 ?_
  refine gx_cst (v := 1) (by decide) ?_
  refine va_sld hx hb hX hbl hbA hS (gx_vin rfl) dL_law_1027 ?_
  refine gx_cst (v := (xs 1)) rfl ?_
  refine lv_aload_n hx hb dL_law_1028 rfl (lv_at hl 3 rfl) ?_
  refine lv_iload_n hx hb dL_law_1029 rfl (lv_at hl 0 rfl) ?_
  refine lv_iconst (v := 2) hx hb dL_law_1030 (by decide) ?_
  refine lv_iadd hx hb dL_law_1031 ?_
  refine gx_cst (v := 2) (by decide) ?_
  refine va_sld hx hb hX hbl hbA hS (gx_vin rfl) dL_law_1032 ?_
  refine gx_cst (v := (xs 2)) rfl ?_
  refine gx_ei (wc := ([(hm, .inr (5, [.ref (am 1), .ref (am 2), .ref (am 3), .ref (am 4), .ref (am 5), .ref (am 6), .ref (am 7), .ref (am 8), .int 0, .ref (am 9), .int 0, .ref (am 10), .int 0, .ref (am 11), .ref (am 12), .int 0, .int 0, .int 1, .null, .null, .int 0, .int 0, .int 0, .long 0, .int 0, .ref (am 13), .int 0, .int 0, .int 0, .ref (am 14), .ref (am 15), .ref (am 16), .ref (am 17), .int 0, .ref (am 18), .ref (am 19), .ref (am 20)])), ((am 9), .inl (k 0, 8, .inl (fun _ => 0)))] : va_W)) (wr := []) (isC := [0, 1]) (isR := []) hP hD hS hA rfl rfl (by decide) (by decide) (gx_runV (na := 2) (As := [.int (xs 1), .int (xs 2)]) (rest := [.int r_3]) (ci := 5) C hl.1 hK (gx_subP (wc := ([(hm, .inr (5, [.ref (am 1), .ref (am 2), .ref (am 3), .ref (am 4), .ref (am 5), .ref (am 6), .ref (am 7), .ref (am 8), .int 0, .ref (am 9), .int 0, .ref (am 10), .int 0, .ref (am 11), .ref (am 12), .int 0, .int 0, .int 1, .null, .null, .int 0, .int 0, .int 0, .long 0, .int 0, .ref (am 13), .int 0, .int 0, .int 0, .ref (am 14), .ref (am 15), .ref (am 16), .ref (am 17), .int 0, .ref (am 18), .ref (am 19), .ref (am 20)])), ((am 9), .inl (k 0, 8, .inl (fun _ => 0)))] : va_W)) hP [0, 1] rfl) ((hD.sub (ws' := ([(hm, .inr (5, [.ref (am 1), .ref (am 2), .ref (am 3), .ref (am 4), .ref (am 5), .ref (am 6), .ref (am 7), .ref (am 8), .int 0, .ref (am 9), .int 0, .ref (am 10), .int 0, .ref (am 11), .ref (am 12), .int 0, .int 0, .int 1, .null, .null, .int 0, .int 0, .int 0, .long 0, .int 0, .ref (am 13), .int 0, .int 0, .int 0, .ref (am 14), .ref (am 15), .ref (am 16), .ref (am 17), .int 0, .ref (am 18), .ref (am 19), .ref (am 20)])), ((am 9), .inl (k 0, 8, .inl (fun _ => 0)))] : va_W)) [0, 1] (by decide) rfl).weaken (fun _ _ _ _ => trivial)) (m_next_pub l D k hm am (xs 1) (xs 2) _) gV_R_law_119 (by decide +kernel) rfl rfl ⟨Nat.le_of_ble_eq_true rfl, Nat.le_of_ble_eq_true rfl⟩ rfl rfl rfl rfl (Nat.le_of_ble_eq_true rfl) dL_law_1033 ⟨Nat.le_of_ble_eq_true rfl, Nat.le_of_ble_eq_true rfl⟩) (fun r_7 u_5 H locs h_6 hP hD hS => ?_)
  have h_6 : r_7 = -2 := h_6
  have hP : va_P D gx_cl [] H := hP
  have hD : va_D A [] := hD
  refine lv_icmp_eq (tgt := 1806) hx hb dL_law_1036 (by decide) (fun c_9 => ?_) (fun c_9 => absurd (h_2.trans h_6.symm) c_9)
  exact lc_next C0 hS (Nat.le_of_ble_eq_true rfl) (Nat.le_of_ble_eq_true rfl) (lv_sub hl [0, 3] rfl)
