theorem dX5_exploreOne_17 : decode cX5_exploreOne 17 = .ok (.putfield 21, 3) := by decide +kernel
theorem dX5_exploreOne_20 : decode cX5_exploreOne 20 = .ok (.aload_n 0, 1) := by decide +kernel
theorem dX5_exploreOne_21 : decode cX5_exploreOne 21 = .ok (.invokevirtual 64, 3) := by decide +kernel
theorem dX5_exploreOne_24 : decode cX5_exploreOne 24 = .ok (.ireturn, 1) := by decide +kernel
set_option maxRecDepth 20000 in
theorem ggX5_exploreTwo_X6_take : GoodIn wsX5_exploreTwo wsX6_take := goodIn_g _ [(8, 13), (7, 1), (21, 8), (75, 10)] (by exact rfl) (by decide +kernel)
set_option maxRecDepth 20000 in
theorem gX5_exploreTwo_X6_take : GoodIn wsX5_exploreTwo (wsV RX5 57 RX6 yX6_take wsX6_take) := goodIn_app (goodIn_of _ (by decide +kernel)) ggX5_exploreTwo_X6_take
set_option maxRecDepth 20000 in
theorem ggX5_exploreTwo_X5_explore : GoodIn wsX5_exploreTwo wsX5_explore := goodIn_g _ [(33, 2), (1, 2), (35, 6), (7, 1), (41, 1), (10, 1), (17, 1), (42, 3), (32, 1), (45, 7), (13, 1), (52, 1), (23, 1), (53, 5), (3, 1), (58, 17), (78, 4)] (by exact rfl) (by decide +kernel)
set_option maxRecDepth 20000 in
theorem gX5_exploreTwo_X5_explore : GoodIn wsX5_exploreTwo (wsV RX5 64 RX5 yX5_explore wsX5_explore) := goodIn_app (goodIn_of _ (by decide +kernel)) ggX5_exploreTwo_X5_explore
theorem dX5_exploreTwo_0 : decode cX5_exploreTwo 0 = .ok (.aload_n 0, 1) := by decide +kernel
theorem dX5_exploreTwo_1 : decode cX5_exploreTwo 1 = .ok (.getfield 12, 3) := by decide +kernel
theorem dX5_exploreTwo_4 : decode cX5_exploreTwo 4 = .ok (.aload_n 1, 1) := by decide +kernel
theorem dX5_exploreTwo_5 : decode cX5_exploreTwo 5 = .ok (.invokevirtual 57, 3) := by decide +kernel
theorem dX5_exploreTwo_8 : decode cX5_exploreTwo 8 = .ok (.aload_n 0, 1) := by decide +kernel
theorem dX5_exploreTwo_9 : decode cX5_exploreTwo 9 = .ok (.getfield 18, 3) := by decide +kernel
theorem dX5_exploreTwo_12 : decode cX5_exploreTwo 12 = .ok (.aload_n 2, 1) := by decide +kernel
theorem dX5_exploreTwo_13 : decode cX5_exploreTwo 13 = .ok (.invokevirtual 57, 3) := by decide +kernel
theorem dX5_exploreTwo_16 : decode cX5_exploreTwo 16 = .ok (.aload_n 0, 1) := by decide +kernel
theorem dX5_exploreTwo_17 : decode cX5_exploreTwo 17 = .ok (.iload_n 3, 1) := by decide +kernel
theorem dX5_exploreTwo_18 : decode cX5_exploreTwo 18 = .ok (.putfield 21, 3) := by decide +kernel
theorem dX5_exploreTwo_21 : decode cX5_exploreTwo 21 = .ok (.aload_n 0, 1) := by decide +kernel
theorem dX5_exploreTwo_22 : decode cX5_exploreTwo 22 = .ok (.invokevirtual 64, 3) := by decide +kernel
theorem dX5_exploreTwo_25 : decode cX5_exploreTwo 25 = .ok (.ireturn, 1) := by decide +kernel
set_option maxRecDepth 20000 in
theorem ggX5_explore_X6_firstSet : GoodIn wsX5_explore wsX6_firstSet := goodIn_g _ [(11, 3), (51, 4)] (by exact rfl) (by decide +kernel)
set_option maxRecDepth 20000 in
theorem gX5_explore_X6_firstSet : GoodIn wsX5_explore (wsV RX5 68 RX6 yX6_firstSet wsX6_firstSet) := goodIn_app (goodIn_of _ (by decide +kernel)) ggX5_explore_X6_firstSet
set_option maxRecDepth 20000 in
theorem ggX5_explore_X5_addPair : GoodIn wsX5_explore wsX5_addPair := goodIn_g _ [(18, 1), (1, 1), (4, 2), (19, 2), (38, 13)] (by exact rfl) (by decide +kernel)
set_option maxRecDepth 20000 in
theorem gX5_explore_X5_addPair : GoodIn wsX5_explore (wsV RX5 72 RX5 yX5_addPair wsX5_addPair) := goodIn_app (goodIn_of _ (by decide +kernel)) ggX5_explore_X5_addPair
set_option maxRecDepth 20000 in
theorem ggX5_explore_X6_setBehind : GoodIn wsX5_explore wsX6_setBehind := goodIn_g _ [(24, 1), (12, 1), (25, 4), (51, 4)] (by exact rfl) (by decide +kernel)
set_option maxRecDepth 20000 in
theorem gX5_explore_X6_setBehind : GoodIn wsX5_explore (wsV RX5 76 RX6 yX6_setBehind wsX6_setBehind) := goodIn_app (goodIn_of _ (by decide +kernel)) ggX5_explore_X6_setBehind
set_option maxRecDepth 20000 in
theorem ggX5_explore_X5_isLookedAt : GoodIn wsX5_explore wsX5_isLookedAt := goodIn_g _ [(32, 2), (38, 13)] (by exact rfl) (by decide +kernel)
set_option maxRecDepth 20000 in
theorem gX5_explore_X5_isLookedAt : GoodIn wsX5_explore (wsV RX5 80 RX5 yX5_isLookedAt wsX5_isLookedAt) := goodIn_app (goodIn_of _ (by decide +kernel)) ggX5_explore_X5_isLookedAt
set_option maxRecDepth 20000 in
theorem ggX5_explore_X5_placeOf : GoodIn wsX5_explore wsX5_placeOf := goodIn_g _ [(37, 1), (1, 1), (4, 2), (38, 13)] (by exact rfl) (by decide +kernel)
set_option maxRecDepth 20000 in
theorem gX5_explore_X5_placeOf : GoodIn wsX5_explore (wsV RX5 84 RX5 yX5_placeOf wsX5_placeOf) := goodIn_app (goodIn_of _ (by decide +kernel)) ggX5_explore_X5_placeOf
theorem dX5_explore_0 : decode cX5_explore 0 = .ok (.aload_n 0, 1) := by decide +kernel
theorem dX5_explore_1 : decode cX5_explore 1 = .ok (.iconst 0, 1) := by decide +kernel
theorem dX5_explore_2 : decode cX5_explore 2 = .ok (.putfield 41, 3) := by decide +kernel
theorem dX5_explore_5 : decode cX5_explore 5 = .ok (.aload_n 0, 1) := by decide +kernel
theorem dX5_explore_6 : decode cX5_explore 6 = .ok (.aload_n 0, 1) := by decide +kernel
theorem dX5_explore_7 : decode cX5_explore 7 = .ok (.getfield 12, 3) := by decide +kernel
theorem dX5_explore_10 : decode cX5_explore 10 = .ok (.invokevirtual 68, 3) := by decide +kernel
theorem dX5_explore_13 : decode cX5_explore 13 = .ok (.aload_n 0, 1) := by decide +kernel
theorem dX5_explore_14 : decode cX5_explore 14 = .ok (.getfield 18, 3) := by decide +kernel
theorem dX5_explore_17 : decode cX5_explore 17 = .ok (.invokevirtual 68, 3) := by decide +kernel
theorem dX5_explore_20 : decode cX5_explore 20 = .ok (.iconst (-1), 1) := by decide +kernel
theorem dX5_explore_21 : decode cX5_explore 21 = .ok (.iconst (-1), 1) := by decide +kernel
theorem dX5_explore_22 : decode cX5_explore 22 = .ok (.invokevirtual 72, 3) := by decide +kernel
theorem dX5_explore_25 : decode cX5_explore 25 = .ok (.pop, 1) := by decide +kernel
theorem dX5_explore_26 : decode cX5_explore 26 = .ok (.iconst 0, 1) := by decide +kernel
theorem dX5_explore_27 : decode cX5_explore 27 = .ok (.istore_n 1, 1) := by decide +kernel
theorem dX5_explore_28 : decode cX5_explore 28 = .ok (.iload_n 1, 1) := by decide +kernel
theorem dX5_explore_29 : decode cX5_explore 29 = .ok (.aload_n 0, 1) := by decide +kernel
theorem dX5_explore_30 : decode cX5_explore 30 = .ok (.getfield 41, 3) := by decide +kernel
theorem dX5_explore_33 : decode cX5_explore 33 = .ok (.if_icmp .ge 119, 3) := by decide +kernel
theorem dX5_explore_36 : decode cX5_explore 36 = .ok (.iload_n 1, 1) := by decide +kernel
theorem dX5_explore_37 : decode cX5_explore 37 = .ok (.sipush 200, 3) := by decide +kernel
theorem dX5_explore_40 : decode cX5_explore 40 = .ok (.if_icmp .ge 112, 3) := by decide +kernel
theorem dX5_explore_43 : decode cX5_explore 43 = .ok (.iconst 0, 1) := by decide +kernel
theorem dX5_explore_44 : decode cX5_explore 44 = .ok (.istore_n 2, 1) := by decide +kernel
theorem dX5_explore_45 : decode cX5_explore 45 = .ok (.iload_n 2, 1) := by decide +kernel
theorem dX5_explore_46 : decode cX5_explore 46 = .ok (.bipush 8, 2) := by decide +kernel
theorem dX5_explore_48 : decode cX5_explore 48 = .ok (.if_icmp .ge 98, 3) := by decide +kernel
theorem dX5_explore_51 : decode cX5_explore 51 = .ok (.aload_n 0, 1) := by decide +kernel
theorem dX5_explore_52 : decode cX5_explore 52 = .ok (.getfield 12, 3) := by decide +kernel
theorem dX5_explore_55 : decode cX5_explore 55 = .ok (.aload_n 0, 1) := by decide +kernel
theorem dX5_explore_56 : decode cX5_explore 56 = .ok (.getfield 25, 3) := by decide +kernel
theorem dX5_explore_59 : decode cX5_explore 59 = .ok (.iload_n 1, 1) := by decide +kernel
theorem dX5_explore_60 : decode cX5_explore 60 = .ok (.iaload, 1) := by decide +kernel
theorem dX5_explore_61 : decode cX5_explore 61 = .ok (.iload_n 2, 1) := by decide +kernel
theorem dX5_explore_62 : decode cX5_explore 62 = .ok (.invokevirtual 76, 3) := by decide +kernel
theorem dX5_explore_65 : decode cX5_explore 65 = .ok (.istore_n 3, 1) := by decide +kernel
theorem dX5_explore_66 : decode cX5_explore 66 = .ok (.aload_n 0, 1) := by decide +kernel
theorem dX5_explore_67 : decode cX5_explore 67 = .ok (.getfield 18, 3) := by decide +kernel
theorem dX5_explore_70 : decode cX5_explore 70 = .ok (.aload_n 0, 1) := by decide +kernel
theorem dX5_explore_71 : decode cX5_explore 71 = .ok (.getfield 29, 3) := by decide +kernel
theorem dX5_explore_74 : decode cX5_explore 74 = .ok (.iload_n 1, 1) := by decide +kernel
theorem dX5_explore_75 : decode cX5_explore 75 = .ok (.iaload, 1) := by decide +kernel
theorem dX5_explore_76 : decode cX5_explore 76 = .ok (.iload_n 2, 1) := by decide +kernel
theorem dX5_explore_77 : decode cX5_explore 77 = .ok (.invokevirtual 76, 3) := by decide +kernel
theorem dX5_explore_80 : decode cX5_explore 80 = .ok (.istore 4, 2) := by decide +kernel
theorem dX5_explore_82 : decode cX5_explore 82 = .ok (.iconst (-1), 1) := by decide +kernel
theorem dX5_explore_83 : decode cX5_explore 83 = .ok (.istore 5, 2) := by decide +kernel
theorem dX5_explore_85 : decode cX5_explore 85 = .ok (.aload_n 0, 1) := by decide +kernel
theorem dX5_explore_86 : decode cX5_explore 86 = .ok (.iload_n 3, 1) := by decide +kernel
theorem dX5_explore_87 : decode cX5_explore 87 = .ok (.iload 4, 2) := by decide +kernel
theorem dX5_explore_89 : decode cX5_explore 89 = .ok (.invokevirtual 80, 3) := by decide +kernel
theorem dX5_explore_92 : decode cX5_explore 92 = .ok (.ifCond .eq 35, 3) := by decide +kernel
theorem dX5_explore_95 : decode cX5_explore 95 = .ok (.aload_n 0, 1) := by decide +kernel
theorem dX5_explore_96 : decode cX5_explore 96 = .ok (.iload_n 3, 1) := by decide +kernel
theorem dX5_explore_97 : decode cX5_explore 97 = .ok (.iload 4, 2) := by decide +kernel
theorem dX5_explore_99 : decode cX5_explore 99 = .ok (.invokevirtual 84, 3) := by decide +kernel
theorem dX5_explore_102 : decode cX5_explore 102 = .ok (.istore 5, 2) := by decide +kernel
theorem dX5_explore_104 : decode cX5_explore 104 = .ok (.iload 5, 2) := by decide +kernel
theorem dX5_explore_106 : decode cX5_explore 106 = .ok (.aload_n 0, 1) := by decide +kernel
theorem dX5_explore_107 : decode cX5_explore 107 = .ok (.getfield 41, 3) := by decide +kernel
theorem dX5_explore_110 : decode cX5_explore 110 = .ok (.if_icmp .ne 17, 3) := by decide +kernel
theorem dX5_explore_113 : decode cX5_explore 113 = .ok (.aload_n 0, 1) := by decide +kernel
theorem dX5_explore_114 : decode cX5_explore 114 = .ok (.iload_n 3, 1) := by decide +kernel
theorem dX5_explore_115 : decode cX5_explore 115 = .ok (.iload 4, 2) := by decide +kernel
theorem dX5_explore_117 : decode cX5_explore 117 = .ok (.iload_n 1, 1) := by decide +kernel
theorem dX5_explore_118 : decode cX5_explore 118 = .ok (.iload_n 2, 1) := by decide +kernel
theorem dX5_explore_119 : decode cX5_explore 119 = .ok (.invokevirtual 72, 3) := by decide +kernel
theorem dX5_explore_122 : decode cX5_explore 122 = .ok (.ifCond .ne 5, 3) := by decide +kernel
theorem dX5_explore_125 : decode cX5_explore 125 = .ok (.iconst 0, 1) := by decide +kernel
theorem dX5_explore_126 : decode cX5_explore 126 = .ok (.ireturn, 1) := by decide +kernel
theorem dX5_explore_127 : decode cX5_explore 127 = .ok (.aload_n 0, 1) := by decide +kernel
theorem dX5_explore_128 : decode cX5_explore 128 = .ok (.getfield 32, 3) := by decide +kernel
theorem dX5_explore_131 : decode cX5_explore 131 = .ok (.iload_n 1, 1) := by decide +kernel
theorem dX5_explore_132 : decode cX5_explore 132 = .ok (.bipush 8, 2) := by decide +kernel
theorem dX5_explore_134 : decode cX5_explore 134 = .ok (.imul, 1) := by decide +kernel
theorem dX5_explore_135 : decode cX5_explore 135 = .ok (.iload_n 2, 1) := by decide +kernel
theorem dX5_explore_136 : decode cX5_explore 136 = .ok (.iadd, 1) := by decide +kernel
theorem dX5_explore_137 : decode cX5_explore 137 = .ok (.iload 5, 2) := by decide +kernel
theorem dX5_explore_139 : decode cX5_explore 139 = .ok (.iastore, 1) := by decide +kernel
theorem dX5_explore_140 : decode cX5_explore 140 = .ok (.iinc 2 1, 3) := by decide +kernel
theorem dX5_explore_143 : decode cX5_explore 143 = .ok (.goto (-98), 3) := by decide +kernel
theorem dX5_explore_146 : decode cX5_explore 146 = .ok (.iinc 1 1, 3) := by decide +kernel
theorem dX5_explore_149 : decode cX5_explore 149 = .ok (.goto (-121), 3) := by decide +kernel
theorem dX5_explore_152 : decode cX5_explore 152 = .ok (.iconst 1, 1) := by decide +kernel
theorem dX5_explore_153 : decode cX5_explore 153 = .ok (.ireturn, 1) := by decide +kernel
theorem dX5_isLookedAt_0 : decode cX5_isLookedAt 0 = .ok (.aload_n 0, 1) := by decide +kernel
theorem dX5_isLookedAt_1 : decode cX5_isLookedAt 1 = .ok (.getfield 21, 3) := by decide +kernel
theorem dX5_isLookedAt_4 : decode cX5_isLookedAt 4 = .ok (.iconst 1, 1) := by decide +kernel
theorem dX5_isLookedAt_5 : decode cX5_isLookedAt 5 = .ok (.if_icmp .ne 17, 3) := by decide +kernel
theorem dX5_isLookedAt_8 : decode cX5_isLookedAt 8 = .ok (.iload_n 1, 1) := by decide +kernel
theorem dX5_isLookedAt_9 : decode cX5_isLookedAt 9 = .ok (.ifCond .eq 11, 3) := by decide +kernel
theorem dX5_isLookedAt_12 : decode cX5_isLookedAt 12 = .ok (.iload_n 2, 1) := by decide +kernel
theorem dX5_isLookedAt_13 : decode cX5_isLookedAt 13 = .ok (.ifCond .eq 7, 3) := by decide +kernel
theorem dX5_isLookedAt_16 : decode cX5_isLookedAt 16 = .ok (.iconst 1, 1) := by decide +kernel
theorem dX5_isLookedAt_17 : decode cX5_isLookedAt 17 = .ok (.goto 4, 3) := by decide +kernel
theorem dX5_isLookedAt_20 : decode cX5_isLookedAt 20 = .ok (.iconst 0, 1) := by decide +kernel
theorem dX5_isLookedAt_21 : decode cX5_isLookedAt 21 = .ok (.ireturn, 1) := by decide +kernel
theorem dX5_isLookedAt_22 : decode cX5_isLookedAt 22 = .ok (.iload_n 1, 1) := by decide +kernel
theorem dX5_isLookedAt_23 : decode cX5_isLookedAt 23 = .ok (.ifCond .ne 15, 3) := by decide +kernel
theorem dX5_isLookedAt_26 : decode cX5_isLookedAt 26 = .ok (.aload_n 0, 1) := by decide +kernel
theorem dX5_isLookedAt_27 : decode cX5_isLookedAt 27 = .ok (.getfield 21, 3) := by decide +kernel
theorem dX5_isLookedAt_30 : decode cX5_isLookedAt 30 = .ok (.iconst 2, 1) := by decide +kernel
theorem dX5_isLookedAt_31 : decode cX5_isLookedAt 31 = .ok (.if_icmp .ne 11, 3) := by decide +kernel
theorem dX5_isLookedAt_34 : decode cX5_isLookedAt 34 = .ok (.iload_n 2, 1) := by decide +kernel
theorem dX5_isLookedAt_35 : decode cX5_isLookedAt 35 = .ok (.ifCond .eq 7, 3) := by decide +kernel
theorem dX5_isLookedAt_38 : decode cX5_isLookedAt 38 = .ok (.iconst 1, 1) := by decide +kernel
theorem dX5_isLookedAt_39 : decode cX5_isLookedAt 39 = .ok (.goto 4, 3) := by decide +kernel
theorem dX5_isLookedAt_42 : decode cX5_isLookedAt 42 = .ok (.iconst 0, 1) := by decide +kernel
theorem dX5_isLookedAt_43 : decode cX5_isLookedAt 43 = .ok (.ireturn, 1) := by decide +kernel
theorem dX5_placeOf_0 : decode cX5_placeOf 0 = .ok (.iconst 0, 1) := by decide +kernel
theorem dX5_placeOf_1 : decode cX5_placeOf 1 = .ok (.istore_n 3, 1) := by decide +kernel
theorem dX5_placeOf_2 : decode cX5_placeOf 2 = .ok (.iload_n 3, 1) := by decide +kernel
theorem dX5_placeOf_3 : decode cX5_placeOf 3 = .ok (.aload_n 0, 1) := by decide +kernel
theorem dX5_placeOf_4 : decode cX5_placeOf 4 = .ok (.getfield 41, 3) := by decide +kernel
theorem dX5_placeOf_7 : decode cX5_placeOf 7 = .ok (.if_icmp .ge 31, 3) := by decide +kernel
theorem dX5_placeOf_10 : decode cX5_placeOf 10 = .ok (.aload_n 0, 1) := by decide +kernel
theorem dX5_placeOf_11 : decode cX5_placeOf 11 = .ok (.getfield 25, 3) := by decide +kernel
theorem dX5_placeOf_14 : decode cX5_placeOf 14 = .ok (.iload_n 3, 1) := by decide +kernel
theorem dX5_placeOf_15 : decode cX5_placeOf 15 = .ok (.iaload, 1) := by decide +kernel
theorem dX5_placeOf_16 : decode cX5_placeOf 16 = .ok (.iload_n 1, 1) := by decide +kernel
theorem dX5_placeOf_17 : decode cX5_placeOf 17 = .ok (.if_icmp .ne 15, 3) := by decide +kernel
theorem dX5_placeOf_20 : decode cX5_placeOf 20 = .ok (.aload_n 0, 1) := by decide +kernel
theorem dX5_placeOf_21 : decode cX5_placeOf 21 = .ok (.getfield 29, 3) := by decide +kernel
theorem dX5_placeOf_24 : decode cX5_placeOf 24 = .ok (.iload_n 3, 1) := by decide +kernel
theorem dX5_placeOf_25 : decode cX5_placeOf 25 = .ok (.iaload, 1) := by decide +kernel
theorem dX5_placeOf_26 : decode cX5_placeOf 26 = .ok (.iload_n 2, 1) := by decide +kernel
theorem dX5_placeOf_27 : decode cX5_placeOf 27 = .ok (.if_icmp .ne 5, 3) := by decide +kernel
theorem dX5_placeOf_30 : decode cX5_placeOf 30 = .ok (.iload_n 3, 1) := by decide +kernel
theorem dX5_placeOf_31 : decode cX5_placeOf 31 = .ok (.ireturn, 1) := by decide +kernel
theorem dX5_placeOf_32 : decode cX5_placeOf 32 = .ok (.iinc 3 1, 3) := by decide +kernel
theorem dX5_placeOf_35 : decode cX5_placeOf 35 = .ok (.goto (-33), 3) := by decide +kernel
theorem dX5_placeOf_38 : decode cX5_placeOf 38 = .ok (.aload_n 0, 1) := by decide +kernel
theorem dX5_placeOf_39 : decode cX5_placeOf 39 = .ok (.getfield 41, 3) := by decide +kernel
theorem dX5_placeOf_42 : decode cX5_placeOf 42 = .ok (.ireturn, 1) := by decide +kernel
theorem dX5_addPair_0 : decode cX5_addPair 0 = .ok (.aload_n 0, 1) := by decide +kernel
theorem dX5_addPair_1 : decode cX5_addPair 1 = .ok (.getfield 41, 3) := by decide +kernel
theorem dX5_addPair_4 : decode cX5_addPair 4 = .ok (.sipush 200, 3) := by decide +kernel
theorem dX5_addPair_7 : decode cX5_addPair 7 = .ok (.if_icmp .lt 5, 3) := by decide +kernel
theorem dX5_addPair_10 : decode cX5_addPair 10 = .ok (.iconst 0, 1) := by decide +kernel
theorem dX5_addPair_11 : decode cX5_addPair 11 = .ok (.ireturn, 1) := by decide +kernel
theorem dX5_addPair_12 : decode cX5_addPair 12 = .ok (.aload_n 0, 1) := by decide +kernel
theorem dX5_addPair_13 : decode cX5_addPair 13 = .ok (.getfield 25, 3) := by decide +kernel
theorem dX5_addPair_16 : decode cX5_addPair 16 = .ok (.aload_n 0, 1) := by decide +kernel
theorem dX5_addPair_17 : decode cX5_addPair 17 = .ok (.getfield 41, 3) := by decide +kernel
theorem dX5_addPair_20 : decode cX5_addPair 20 = .ok (.iload_n 1, 1) := by decide +kernel
theorem dX5_addPair_21 : decode cX5_addPair 21 = .ok (.iastore, 1) := by decide +kernel
theorem dX5_addPair_22 : decode cX5_addPair 22 = .ok (.aload_n 0, 1) := by decide +kernel
theorem dX5_addPair_23 : decode cX5_addPair 23 = .ok (.getfield 29, 3) := by decide +kernel
theorem dX5_addPair_26 : decode cX5_addPair 26 = .ok (.aload_n 0, 1) := by decide +kernel
theorem dX5_addPair_27 : decode cX5_addPair 27 = .ok (.getfield 41, 3) := by decide +kernel
theorem dX5_addPair_30 : decode cX5_addPair 30 = .ok (.iload_n 2, 1) := by decide +kernel
theorem dX5_addPair_31 : decode cX5_addPair 31 = .ok (.iastore, 1) := by decide +kernel
theorem dX5_addPair_32 : decode cX5_addPair 32 = .ok (.aload_n 0, 1) := by decide +kernel
theorem dX5_addPair_33 : decode cX5_addPair 33 = .ok (.getfield 35, 3) := by decide +kernel
theorem dX5_addPair_36 : decode cX5_addPair 36 = .ok (.aload_n 0, 1) := by decide +kernel
theorem dX5_addPair_37 : decode cX5_addPair 37 = .ok (.getfield 41, 3) := by decide +kernel
theorem dX5_addPair_40 : decode cX5_addPair 40 = .ok (.iload_n 3, 1) := by decide +kernel
theorem dX5_addPair_41 : decode cX5_addPair 41 = .ok (.iastore, 1) := by decide +kernel
theorem dX5_addPair_42 : decode cX5_addPair 42 = .ok (.aload_n 0, 1) := by decide +kernel
theorem dX5_addPair_43 : decode cX5_addPair 43 = .ok (.getfield 38, 3) := by decide +kernel
theorem dX5_addPair_46 : decode cX5_addPair 46 = .ok (.aload_n 0, 1) := by decide +kernel
theorem dX5_addPair_47 : decode cX5_addPair 47 = .ok (.getfield 41, 3) := by decide +kernel
theorem dX5_addPair_50 : decode cX5_addPair 50 = .ok (.iload 4, 2) := by decide +kernel
theorem dX5_addPair_52 : decode cX5_addPair 52 = .ok (.iastore, 1) := by decide +kernel
theorem dX5_addPair_53 : decode cX5_addPair 53 = .ok (.aload_n 0, 1) := by decide +kernel
theorem dX5_addPair_54 : decode cX5_addPair 54 = .ok (.dup, 1) := by decide +kernel
theorem dX5_addPair_55 : decode cX5_addPair 55 = .ok (.getfield 41, 3) := by decide +kernel
theorem dX5_addPair_58 : decode cX5_addPair 58 = .ok (.iconst 1, 1) := by decide +kernel
theorem dX5_addPair_59 : decode cX5_addPair 59 = .ok (.iadd, 1) := by decide +kernel
theorem dX5_addPair_60 : decode cX5_addPair 60 = .ok (.putfield 41, 3) := by decide +kernel
theorem dX5_addPair_63 : decode cX5_addPair 63 = .ok (.iconst 1, 1) := by decide +kernel
theorem dX5_addPair_64 : decode cX5_addPair 64 = .ok (.ireturn, 1) := by decide +kernel
set_option maxRecDepth 20000 in
theorem ggX5_isWanted_X6_hasEndIn : GoodIn wsX5_isWanted wsX6_hasEndIn := goodIn_g _ [(10, 2), (25, 4)] (by exact rfl) (by decide +kernel)
set_option maxRecDepth 20000 in
theorem gX5_isWanted_X6_hasEndIn : GoodIn wsX5_isWanted (wsV RX5 87 RX6 yX6_hasEndIn wsX6_hasEndIn) := goodIn_app (goodIn_of _ (by decide +kernel)) ggX5_isWanted_X6_hasEndIn
theorem dX5_isWanted_0 : decode cX5_isWanted 0 = .ok (.aload_n 0, 1) := by decide +kernel
theorem dX5_isWanted_1 : decode cX5_isWanted 1 = .ok (.getfield 12, 3) := by decide +kernel
theorem dX5_isWanted_4 : decode cX5_isWanted 4 = .ok (.aload_n 0, 1) := by decide +kernel
theorem dX5_isWanted_5 : decode cX5_isWanted 5 = .ok (.getfield 25, 3) := by decide +kernel
theorem dX5_isWanted_8 : decode cX5_isWanted 8 = .ok (.iload_n 1, 1) := by decide +kernel
theorem dX5_isWanted_9 : decode cX5_isWanted 9 = .ok (.iaload, 1) := by decide +kernel
theorem dX5_isWanted_10 : decode cX5_isWanted 10 = .ok (.invokevirtual 87, 3) := by decide +kernel
theorem dX5_isWanted_13 : decode cX5_isWanted 13 = .ok (.istore_n 2, 1) := by decide +kernel
theorem dX5_isWanted_14 : decode cX5_isWanted 14 = .ok (.aload_n 0, 1) := by decide +kernel
theorem dX5_isWanted_15 : decode cX5_isWanted 15 = .ok (.getfield 18, 3) := by decide +kernel
theorem dX5_isWanted_18 : decode cX5_isWanted 18 = .ok (.aload_n 0, 1) := by decide +kernel
theorem dX5_isWanted_19 : decode cX5_isWanted 19 = .ok (.getfield 29, 3) := by decide +kernel
theorem dX5_isWanted_22 : decode cX5_isWanted 22 = .ok (.iload_n 1, 1) := by decide +kernel
theorem dX5_isWanted_23 : decode cX5_isWanted 23 = .ok (.iaload, 1) := by decide +kernel
theorem dX5_isWanted_24 : decode cX5_isWanted 24 = .ok (.invokevirtual 87, 3) := by decide +kernel
theorem dX5_isWanted_27 : decode cX5_isWanted 27 = .ok (.istore_n 3, 1) := by decide +kernel
theorem dX5_isWanted_28 : decode cX5_isWanted 28 = .ok (.aload_n 0, 1) := by decide +kernel
theorem dX5_isWanted_29 : decode cX5_isWanted 29 = .ok (.getfield 21, 3) := by decide +kernel
theorem dX5_isWanted_32 : decode cX5_isWanted 32 = .ok (.iconst 1, 1) := by decide +kernel
theorem dX5_isWanted_33 : decode cX5_isWanted 33 = .ok (.if_icmp .ne 17, 3) := by decide +kernel
theorem dX5_isWanted_36 : decode cX5_isWanted 36 = .ok (.iload_n 2, 1) := by decide +kernel
theorem dX5_isWanted_37 : decode cX5_isWanted 37 = .ok (.ifCond .eq 11, 3) := by decide +kernel
theorem dX5_isWanted_40 : decode cX5_isWanted 40 = .ok (.iload_n 3, 1) := by decide +kernel
theorem dX5_isWanted_41 : decode cX5_isWanted 41 = .ok (.ifCond .eq 7, 3) := by decide +kernel
theorem dX5_isWanted_44 : decode cX5_isWanted 44 = .ok (.iconst 1, 1) := by decide +kernel
theorem dX5_isWanted_45 : decode cX5_isWanted 45 = .ok (.goto 4, 3) := by decide +kernel
theorem dX5_isWanted_48 : decode cX5_isWanted 48 = .ok (.iconst 0, 1) := by decide +kernel
theorem dX5_isWanted_49 : decode cX5_isWanted 49 = .ok (.ireturn, 1) := by decide +kernel
theorem dX5_isWanted_50 : decode cX5_isWanted 50 = .ok (.aload_n 0, 1) := by decide +kernel
theorem dX5_isWanted_51 : decode cX5_isWanted 51 = .ok (.getfield 21, 3) := by decide +kernel
theorem dX5_isWanted_54 : decode cX5_isWanted 54 = .ok (.iconst 2, 1) := by decide +kernel
theorem dX5_isWanted_55 : decode cX5_isWanted 55 = .ok (.if_icmp .ne 16, 3) := by decide +kernel
theorem dX5_isWanted_58 : decode cX5_isWanted 58 = .ok (.iload_n 2, 1) := by decide +kernel
theorem dX5_isWanted_59 : decode cX5_isWanted 59 = .ok (.iload_n 3, 1) := by decide +kernel
theorem dX5_isWanted_60 : decode cX5_isWanted 60 = .ok (.if_icmp .eq 7, 3) := by decide +kernel
theorem dX5_isWanted_63 : decode cX5_isWanted 63 = .ok (.iconst 1, 1) := by decide +kernel
theorem dX5_isWanted_64 : decode cX5_isWanted 64 = .ok (.goto 20, 3) := by decide +kernel
theorem dX5_isWanted_67 : decode cX5_isWanted 67 = .ok (.iconst 0, 1) := by decide +kernel
theorem dX5_isWanted_68 : decode cX5_isWanted 68 = .ok (.goto 16, 3) := by decide +kernel
theorem dX5_isWanted_71 : decode cX5_isWanted 71 = .ok (.iload_n 2, 1) := by decide +kernel
theorem dX5_isWanted_72 : decode cX5_isWanted 72 = .ok (.ifCond .eq 11, 3) := by decide +kernel
theorem dX5_isWanted_75 : decode cX5_isWanted 75 = .ok (.iload_n 3, 1) := by decide +kernel
theorem dX5_isWanted_76 : decode cX5_isWanted 76 = .ok (.ifCond .ne 7, 3) := by decide +kernel
theorem dX5_isWanted_79 : decode cX5_isWanted 79 = .ok (.iconst 1, 1) := by decide +kernel
theorem dX5_isWanted_80 : decode cX5_isWanted 80 = .ok (.goto 4, 3) := by decide +kernel
theorem dX5_isWanted_83 : decode cX5_isWanted 83 = .ok (.iconst 0, 1) := by decide +kernel
theorem dX5_isWanted_84 : decode cX5_isWanted 84 = .ok (.ireturn, 1) := by decide +kernel
set_option maxRecDepth 20000 in
theorem ggX5_firstWantedLetter_X5_isWanted : GoodIn wsX5_firstWantedLetter wsX5_isWanted := goodIn_g _ [(6, 12), (28, 17)] (by exact rfl) (by decide +kernel)
set_option maxRecDepth 20000 in
theorem gX5_firstWantedLetter_X5_isWanted : GoodIn wsX5_firstWantedLetter (wsV RX5 91 RX5 yX5_isWanted wsX5_isWanted) := goodIn_app (goodIn_of _ (by decide +kernel)) ggX5_firstWantedLetter_X5_isWanted
set_option maxRecDepth 20000 in
theorem ggX5_firstWantedLetter_X5_letterOnWayTo : GoodIn wsX5_firstWantedLetter wsX5_letterOnWayTo := goodIn_g _ [(21, 6), (5, 1), (27, 14)] (by exact rfl) (by decide +kernel)
set_option maxRecDepth 20000 in
theorem gX5_firstWantedLetter_X5_letterOnWayTo : GoodIn wsX5_firstWantedLetter (wsV RX5 94 RX5 yX5_letterOnWayTo wsX5_letterOnWayTo) := goodIn_app (goodIn_of _ (by decide +kernel)) ggX5_firstWantedLetter_X5_letterOnWayTo
theorem dX5_firstWantedLetter_0 : decode cX5_firstWantedLetter 0 = .ok (.iconst 0, 1) := by decide +kernel
theorem dX5_firstWantedLetter_1 : decode cX5_firstWantedLetter 1 = .ok (.istore_n 2, 1) := by decide +kernel
theorem dX5_firstWantedLetter_2 : decode cX5_firstWantedLetter 2 = .ok (.iload_n 2, 1) := by decide +kernel
theorem dX5_firstWantedLetter_3 : decode cX5_firstWantedLetter 3 = .ok (.aload_n 0, 1) := by decide +kernel
theorem dX5_firstWantedLetter_4 : decode cX5_firstWantedLetter 4 = .ok (.getfield 41, 3) := by decide +kernel
theorem dX5_firstWantedLetter_7 : decode cX5_firstWantedLetter 7 = .ok (.if_icmp .ge 24, 3) := by decide +kernel
theorem dX5_firstWantedLetter_10 : decode cX5_firstWantedLetter 10 = .ok (.aload_n 0, 1) := by decide +kernel
theorem dX5_firstWantedLetter_11 : decode cX5_firstWantedLetter 11 = .ok (.iload_n 2, 1) := by decide +kernel
theorem dX5_firstWantedLetter_12 : decode cX5_firstWantedLetter 12 = .ok (.invokevirtual 91, 3) := by decide +kernel
theorem dX5_firstWantedLetter_15 : decode cX5_firstWantedLetter 15 = .ok (.ifCond .eq 10, 3) := by decide +kernel
theorem dX5_firstWantedLetter_18 : decode cX5_firstWantedLetter 18 = .ok (.aload_n 0, 1) := by decide +kernel
theorem dX5_firstWantedLetter_19 : decode cX5_firstWantedLetter 19 = .ok (.iload_n 2, 1) := by decide +kernel
theorem dX5_firstWantedLetter_20 : decode cX5_firstWantedLetter 20 = .ok (.iload_n 1, 1) := by decide +kernel
theorem dX5_firstWantedLetter_21 : decode cX5_firstWantedLetter 21 = .ok (.invokevirtual 94, 3) := by decide +kernel
theorem dX5_firstWantedLetter_24 : decode cX5_firstWantedLetter 24 = .ok (.ireturn, 1) := by decide +kernel
theorem dX5_firstWantedLetter_25 : decode cX5_firstWantedLetter 25 = .ok (.iinc 2 1, 3) := by decide +kernel
theorem dX5_firstWantedLetter_28 : decode cX5_firstWantedLetter 28 = .ok (.goto (-26), 3) := by decide +kernel
theorem dX5_firstWantedLetter_31 : decode cX5_firstWantedLetter 31 = .ok (.iconst (-1), 1) := by decide +kernel
theorem dX5_firstWantedLetter_32 : decode cX5_firstWantedLetter 32 = .ok (.ireturn, 1) := by decide +kernel
set_option maxRecDepth 20000 in
theorem ggX5_letterOnWayTo_X5_lengthOfWayTo : GoodIn wsX5_letterOnWayTo wsX5_lengthOfWayTo := goodIn_g _ [(7, 1), (1, 1), (8, 13)] (by exact rfl) (by decide +kernel)
set_option maxRecDepth 20000 in
theorem gX5_letterOnWayTo_X5_lengthOfWayTo : GoodIn wsX5_letterOnWayTo (wsV RX5 97 RX5 yX5_lengthOfWayTo wsX5_lengthOfWayTo) := goodIn_app (goodIn_of _ (by decide +kernel)) ggX5_letterOnWayTo_X5_lengthOfWayTo
theorem dX5_letterOnWayTo_0 : decode cX5_letterOnWayTo 0 = .ok (.aload_n 0, 1) := by decide +kernel
theorem dX5_letterOnWayTo_1 : decode cX5_letterOnWayTo 1 = .ok (.iload_n 1, 1) := by decide +kernel
theorem dX5_letterOnWayTo_2 : decode cX5_letterOnWayTo 2 = .ok (.invokevirtual 97, 3) := by decide +kernel
theorem dX5_letterOnWayTo_5 : decode cX5_letterOnWayTo 5 = .ok (.iconst 1, 1) := by decide +kernel
theorem dX5_letterOnWayTo_6 : decode cX5_letterOnWayTo 6 = .ok (.isub, 1) := by decide +kernel
theorem dX5_letterOnWayTo_7 : decode cX5_letterOnWayTo 7 = .ok (.iload_n 2, 1) := by decide +kernel
theorem dX5_letterOnWayTo_8 : decode cX5_letterOnWayTo 8 = .ok (.isub, 1) := by decide +kernel
theorem dX5_letterOnWayTo_9 : decode cX5_letterOnWayTo 9 = .ok (.istore_n 3, 1) := by decide +kernel
theorem dX5_letterOnWayTo_10 : decode cX5_letterOnWayTo 10 = .ok (.iload_n 3, 1) := by decide +kernel
theorem dX5_letterOnWayTo_11 : decode cX5_letterOnWayTo 11 = .ok (.ifCond .ge 6, 3) := by decide +kernel
theorem dX5_letterOnWayTo_14 : decode cX5_letterOnWayTo 14 = .ok (.bipush 8, 2) := by decide +kernel
theorem dX5_letterOnWayTo_16 : decode cX5_letterOnWayTo 16 = .ok (.ireturn, 1) := by decide +kernel
theorem dX5_letterOnWayTo_17 : decode cX5_letterOnWayTo 17 = .ok (.iload_n 1, 1) := by decide +kernel
theorem dX5_letterOnWayTo_18 : decode cX5_letterOnWayTo 18 = .ok (.istore 4, 2) := by decide +kernel
theorem dX5_letterOnWayTo_20 : decode cX5_letterOnWayTo 20 = .ok (.iconst 0, 1) := by decide +kernel
theorem dX5_letterOnWayTo_21 : decode cX5_letterOnWayTo 21 = .ok (.istore 5, 2) := by decide +kernel
theorem dX5_letterOnWayTo_23 : decode cX5_letterOnWayTo 23 = .ok (.iload 5, 2) := by decide +kernel
theorem dX5_letterOnWayTo_25 : decode cX5_letterOnWayTo 25 = .ok (.iload_n 3, 1) := by decide +kernel
theorem dX5_letterOnWayTo_26 : decode cX5_letterOnWayTo 26 = .ok (.if_icmp .ge 28, 3) := by decide +kernel
theorem dX5_letterOnWayTo_29 : decode cX5_letterOnWayTo 29 = .ok (.aload_n 0, 1) := by decide +kernel
theorem dX5_letterOnWayTo_30 : decode cX5_letterOnWayTo 30 = .ok (.getfield 35, 3) := by decide +kernel
theorem dX5_letterOnWayTo_33 : decode cX5_letterOnWayTo 33 = .ok (.iload 4, 2) := by decide +kernel
theorem dX5_letterOnWayTo_35 : decode cX5_letterOnWayTo 35 = .ok (.iaload, 1) := by decide +kernel
theorem dX5_letterOnWayTo_36 : decode cX5_letterOnWayTo 36 = .ok (.ifCond .lt 18, 3) := by decide +kernel
theorem dX5_letterOnWayTo_39 : decode cX5_letterOnWayTo 39 = .ok (.aload_n 0, 1) := by decide +kernel
theorem dX5_letterOnWayTo_40 : decode cX5_letterOnWayTo 40 = .ok (.getfield 35, 3) := by decide +kernel
theorem dX5_letterOnWayTo_43 : decode cX5_letterOnWayTo 43 = .ok (.iload 4, 2) := by decide +kernel
theorem dX5_letterOnWayTo_45 : decode cX5_letterOnWayTo 45 = .ok (.iaload, 1) := by decide +kernel
theorem dX5_letterOnWayTo_46 : decode cX5_letterOnWayTo 46 = .ok (.istore 4, 2) := by decide +kernel
theorem dX5_letterOnWayTo_48 : decode cX5_letterOnWayTo 48 = .ok (.iinc 5 1, 3) := by decide +kernel
theorem dX5_letterOnWayTo_51 : decode cX5_letterOnWayTo 51 = .ok (.goto (-28), 3) := by decide +kernel
theorem dX5_letterOnWayTo_54 : decode cX5_letterOnWayTo 54 = .ok (.aload_n 0, 1) := by decide +kernel
theorem dX5_letterOnWayTo_55 : decode cX5_letterOnWayTo 55 = .ok (.getfield 38, 3) := by decide +kernel
theorem dX5_letterOnWayTo_58 : decode cX5_letterOnWayTo 58 = .ok (.iload 4, 2) := by decide +kernel
theorem dX5_letterOnWayTo_60 : decode cX5_letterOnWayTo 60 = .ok (.iaload, 1) := by decide +kernel
theorem dX5_letterOnWayTo_61 : decode cX5_letterOnWayTo 61 = .ok (.ireturn, 1) := by decide +kernel
theorem dX5_lengthOfWayTo_0 : decode cX5_lengthOfWayTo 0 = .ok (.iload_n 1, 1) := by decide +kernel
theorem dX5_lengthOfWayTo_1 : decode cX5_lengthOfWayTo 1 = .ok (.istore_n 2, 1) := by decide +kernel
theorem dX5_lengthOfWayTo_2 : decode cX5_lengthOfWayTo 2 = .ok (.iconst 0, 1) := by decide +kernel
theorem dX5_lengthOfWayTo_3 : decode cX5_lengthOfWayTo 3 = .ok (.istore_n 3, 1) := by decide +kernel
theorem dX5_lengthOfWayTo_4 : decode cX5_lengthOfWayTo 4 = .ok (.aload_n 0, 1) := by decide +kernel
theorem dX5_lengthOfWayTo_5 : decode cX5_lengthOfWayTo 5 = .ok (.getfield 35, 3) := by decide +kernel
theorem dX5_lengthOfWayTo_8 : decode cX5_lengthOfWayTo 8 = .ok (.iload_n 2, 1) := by decide +kernel
theorem dX5_lengthOfWayTo_9 : decode cX5_lengthOfWayTo 9 = .ok (.iaload, 1) := by decide +kernel
theorem dX5_lengthOfWayTo_10 : decode cX5_lengthOfWayTo 10 = .ok (.ifCond .lt 23, 3) := by decide +kernel
theorem dX5_lengthOfWayTo_13 : decode cX5_lengthOfWayTo 13 = .ok (.iload_n 3, 1) := by decide +kernel
theorem dX5_lengthOfWayTo_14 : decode cX5_lengthOfWayTo 14 = .ok (.sipush 200, 3) := by decide +kernel
theorem dX5_lengthOfWayTo_17 : decode cX5_lengthOfWayTo 17 = .ok (.if_icmp .ge 16, 3) := by decide +kernel
theorem dX5_lengthOfWayTo_20 : decode cX5_lengthOfWayTo 20 = .ok (.aload_n 0, 1) := by decide +kernel
theorem dX5_lengthOfWayTo_21 : decode cX5_lengthOfWayTo 21 = .ok (.getfield 35, 3) := by decide +kernel
theorem dX5_lengthOfWayTo_24 : decode cX5_lengthOfWayTo 24 = .ok (.iload_n 2, 1) := by decide +kernel
theorem dX5_lengthOfWayTo_25 : decode cX5_lengthOfWayTo 25 = .ok (.iaload, 1) := by decide +kernel
theorem dX5_lengthOfWayTo_26 : decode cX5_lengthOfWayTo 26 = .ok (.istore_n 2, 1) := by decide +kernel
theorem dX5_lengthOfWayTo_27 : decode cX5_lengthOfWayTo 27 = .ok (.iinc 3 1, 3) := by decide +kernel
theorem dX5_lengthOfWayTo_30 : decode cX5_lengthOfWayTo 30 = .ok (.goto (-26), 3) := by decide +kernel
theorem dX5_lengthOfWayTo_33 : decode cX5_lengthOfWayTo 33 = .ok (.iload_n 3, 1) := by decide +kernel
theorem dX5_lengthOfWayTo_34 : decode cX5_lengthOfWayTo 34 = .ok (.ireturn, 1) := by decide +kernel
set_option maxRecDepth 20000 in
theorem ggX5_draw_X5_markUseful : GoodIn wsX5_draw wsX5_markUseful := goodIn_g _ [(7, 2), (1, 1), (9, 3), (6, 1), (12, 17), (81, 17)] (by exact rfl) (by decide +kernel)
set_option maxRecDepth 20000 in
theorem gX5_draw_X5_markUseful : GoodIn wsX5_draw (wsV RX5 101 RX5 yX5_markUseful wsX5_markUseful) := goodIn_app (goodIn_of _ (by decide +kernel)) ggX5_draw_X5_markUseful
set_option maxRecDepth 20000 in
theorem ggX5_draw_X1_begin : GoodIn wsX5_draw wsX1_begin := goodIn_g _ [(33, 9), (98, 13)] (by exact rfl) (by decide +kernel)
set_option maxRecDepth 20000 in
theorem gX5_draw_X1_begin : GoodIn wsX5_draw (wsV RX5 104 RX1 yX1_begin wsX1_begin) := goodIn_app (goodIn_of _ (by decide +kernel)) ggX5_draw_X1_begin
set_option maxRecDepth 20000 in
theorem ggX5_draw_X5_groupAlike : GoodIn wsX5_draw wsX5_groupAlike := goodIn_g _ [(45, 1), (8, 1), (2, 1), (1, 1), (9, 3), (6, 1), (12, 12), (46, 18), (28, 1), (81, 17)] (by exact rfl) (by decide +kernel)
set_option maxRecDepth 20000 in
theorem gX5_draw_X5_groupAlike : GoodIn wsX5_draw (wsV RX5 110 RX5 yX5_groupAlike wsX5_groupAlike) := goodIn_app (goodIn_of _ (by decide +kernel)) ggX5_draw_X5_groupAlike
set_option maxRecDepth 20000 in
theorem ggX5_draw_X5_drawGroup : GoodIn wsX5_draw wsX5_drawGroup := goodIn_g _ [(67, 1), (51, 1), (9, 3), (6, 1), (12, 12), (68, 3), (32, 1), (71, 1), (38, 1), (41, 1), (60, 4), (28, 1), (2, 1), (72, 4), (40, 1), (76, 35)] (by exact rfl) (by decide +kernel)
set_option maxRecDepth 20000 in
theorem gX5_draw_X5_drawGroup : GoodIn wsX5_draw (wsV RX5 113 RX5 yX5_drawGroup wsX5_drawGroup) := goodIn_app (goodIn_of _ (by decide +kernel)) ggX5_draw_X5_drawGroup
theorem dX5_draw_0 : decode cX5_draw 0 = .ok (.aload_n 0, 1) := by decide +kernel
theorem dX5_draw_1 : decode cX5_draw 1 = .ok (.invokevirtual 101, 3) := by decide +kernel
theorem dX5_draw_4 : decode cX5_draw 4 = .ok (.aload_n 0, 1) := by decide +kernel
theorem dX5_draw_5 : decode cX5_draw 5 = .ok (.getfield 44, 3) := by decide +kernel
theorem dX5_draw_8 : decode cX5_draw 8 = .ok (.iconst 0, 1) := by decide +kernel
theorem dX5_draw_9 : decode cX5_draw 9 = .ok (.baload, 1) := by decide +kernel
theorem dX5_draw_10 : decode cX5_draw 10 = .ok (.ifCond .ne 11, 3) := by decide +kernel
theorem dX5_draw_13 : decode cX5_draw 13 = .ok (.aload_n 1, 1) := by decide +kernel
theorem dX5_draw_14 : decode cX5_draw 14 = .ok (.iconst 1, 1) := by decide +kernel
theorem dX5_draw_15 : decode cX5_draw 15 = .ok (.iconst 0, 1) := by decide +kernel
theorem dX5_draw_16 : decode cX5_draw 16 = .ok (.invokevirtual 104, 3) := by decide +kernel
theorem dX5_draw_19 : decode cX5_draw 19 = .ok (.iconst 1, 1) := by decide +kernel
theorem dX5_draw_20 : decode cX5_draw 20 = .ok (.ireturn, 1) := by decide +kernel
theorem dX5_draw_21 : decode cX5_draw 21 = .ok (.aload_n 0, 1) := by decide +kernel
theorem dX5_draw_22 : decode cX5_draw 22 = .ok (.invokevirtual 110, 3) := by decide +kernel
theorem dX5_draw_25 : decode cX5_draw 25 = .ok (.istore_n 2, 1) := by decide +kernel
theorem dX5_draw_26 : decode cX5_draw 26 = .ok (.iload_n 2, 1) := by decide +kernel
theorem dX5_draw_27 : decode cX5_draw 27 = .ok (.bipush 32, 2) := by decide +kernel
theorem dX5_draw_29 : decode cX5_draw 29 = .ok (.if_icmp .le 5, 3) := by decide +kernel
theorem dX5_draw_32 : decode cX5_draw 32 = .ok (.iconst 0, 1) := by decide +kernel
theorem dX5_draw_33 : decode cX5_draw 33 = .ok (.ireturn, 1) := by decide +kernel
theorem dX5_draw_34 : decode cX5_draw 34 = .ok (.aload_n 1, 1) := by decide +kernel
theorem dX5_draw_35 : decode cX5_draw 35 = .ok (.iload_n 2, 1) := by decide +kernel
theorem dX5_draw_36 : decode cX5_draw 36 = .ok (.aload_n 0, 1) := by decide +kernel
theorem dX5_draw_37 : decode cX5_draw 37 = .ok (.getfield 48, 3) := by decide +kernel
theorem dX5_draw_40 : decode cX5_draw 40 = .ok (.iconst 0, 1) := by decide +kernel
theorem dX5_draw_41 : decode cX5_draw 41 = .ok (.iaload, 1) := by decide +kernel
theorem dX5_draw_42 : decode cX5_draw 42 = .ok (.invokevirtual 104, 3) := by decide +kernel
theorem dX5_draw_45 : decode cX5_draw 45 = .ok (.iconst 0, 1) := by decide +kernel
theorem dX5_draw_46 : decode cX5_draw 46 = .ok (.istore_n 3, 1) := by decide +kernel
theorem dX5_draw_47 : decode cX5_draw 47 = .ok (.iload_n 3, 1) := by decide +kernel
theorem dX5_draw_48 : decode cX5_draw 48 = .ok (.iload_n 2, 1) := by decide +kernel
theorem dX5_draw_49 : decode cX5_draw 49 = .ok (.if_icmp .ge 15, 3) := by decide +kernel
theorem dX5_draw_52 : decode cX5_draw 52 = .ok (.aload_n 0, 1) := by decide +kernel
theorem dX5_draw_53 : decode cX5_draw 53 = .ok (.aload_n 1, 1) := by decide +kernel
theorem dX5_draw_54 : decode cX5_draw 54 = .ok (.iload_n 3, 1) := by decide +kernel
theorem dX5_draw_55 : decode cX5_draw 55 = .ok (.invokevirtual 113, 3) := by decide +kernel
theorem dX5_draw_58 : decode cX5_draw 58 = .ok (.iinc 3 1, 3) := by decide +kernel
theorem dX5_draw_61 : decode cX5_draw 61 = .ok (.goto (-14), 3) := by decide +kernel
theorem dX5_draw_64 : decode cX5_draw 64 = .ok (.iconst 1, 1) := by decide +kernel
theorem dX5_draw_65 : decode cX5_draw 65 = .ok (.ireturn, 1) := by decide +kernel
set_option maxRecDepth 20000 in
theorem ggX5_drawGroup_X5_isWanted : GoodIn wsX5_drawGroup wsX5_isWanted := goodIn_g _ [(6, 12), (41, 17)] (by exact rfl) (by decide +kernel)
set_option maxRecDepth 20000 in
theorem gX5_drawGroup_X5_isWanted : GoodIn wsX5_drawGroup (wsV RX5 91 RX5 yX5_isWanted wsX5_isWanted) := goodIn_app (goodIn_of _ (by decide +kernel)) ggX5_drawGroup_X5_isWanted
set_option maxRecDepth 20000 in
theorem ggX5_drawGroup_X1_addEnd : GoodIn wsX5_drawGroup wsX1_addEnd := goodIn_g _ [(22, 3), (58, 13)] (by exact rfl) (by decide +kernel)
set_option maxRecDepth 20000 in
theorem gX5_drawGroup_X1_addEnd : GoodIn wsX5_drawGroup (wsV RX5 117 RX1 yX1_addEnd wsX1_addEnd) := goodIn_app (goodIn_of _ (by decide +kernel)) ggX5_drawGroup_X1_addEnd
set_option maxRecDepth 20000 in
theorem ggX5_drawGroup_X5_groupBehind : GoodIn wsX5_drawGroup wsX5_groupBehind := goodIn_g _ [(28, 3), (41, 13)] (by exact rfl) (by decide +kernel)
set_option maxRecDepth 20000 in
theorem gX5_drawGroup_X5_groupBehind : GoodIn wsX5_drawGroup (wsV RX5 121 RX5 yX5_groupBehind wsX5_groupBehind) := goodIn_app (goodIn_of _ (by decide +kernel)) ggX5_drawGroup_X5_groupBehind
set_option maxRecDepth 20000 in
theorem ggX5_drawGroup_X1_addArc : GoodIn wsX5_drawGroup wsX1_addArc := goodIn_g _ [(34, 2), (23, 1), (36, 5), (58, 13)] (by exact rfl) (by decide +kernel)
set_option maxRecDepth 20000 in
theorem gX5_drawGroup_X1_addArc : GoodIn wsX5_drawGroup (wsV RX5 124 RX1 yX1_addArc wsX1_addArc) := goodIn_app (goodIn_of _ (by decide +kernel)) ggX5_drawGroup_X1_addArc
theorem dX5_drawGroup_0 : decode cX5_drawGroup 0 = .ok (.aload_n 0, 1) := by decide +kernel
theorem dX5_drawGroup_1 : decode cX5_drawGroup 1 = .ok (.getfield 54, 3) := by decide +kernel
theorem dX5_drawGroup_4 : decode cX5_drawGroup 4 = .ok (.iload_n 2, 1) := by decide +kernel
theorem dX5_drawGroup_5 : decode cX5_drawGroup 5 = .ok (.iaload, 1) := by decide +kernel
theorem dX5_drawGroup_6 : decode cX5_drawGroup 6 = .ok (.istore_n 3, 1) := by decide +kernel
theorem dX5_drawGroup_7 : decode cX5_drawGroup 7 = .ok (.aload_n 0, 1) := by decide +kernel
theorem dX5_drawGroup_8 : decode cX5_drawGroup 8 = .ok (.iload_n 3, 1) := by decide +kernel
theorem dX5_drawGroup_9 : decode cX5_drawGroup 9 = .ok (.invokevirtual 91, 3) := by decide +kernel
theorem dX5_drawGroup_12 : decode cX5_drawGroup 12 = .ok (.ifCond .eq 8, 3) := by decide +kernel
theorem dX5_drawGroup_15 : decode cX5_drawGroup 15 = .ok (.aload_n 1, 1) := by decide +kernel
theorem dX5_drawGroup_16 : decode cX5_drawGroup 16 = .ok (.iload_n 2, 1) := by decide +kernel
theorem dX5_drawGroup_17 : decode cX5_drawGroup 17 = .ok (.invokevirtual 117, 3) := by decide +kernel
theorem dX5_drawGroup_20 : decode cX5_drawGroup 20 = .ok (.iconst 0, 1) := by decide +kernel
theorem dX5_drawGroup_21 : decode cX5_drawGroup 21 = .ok (.istore 4, 2) := by decide +kernel
theorem dX5_drawGroup_23 : decode cX5_drawGroup 23 = .ok (.iload 4, 2) := by decide +kernel
theorem dX5_drawGroup_25 : decode cX5_drawGroup 25 = .ok (.bipush 8, 2) := by decide +kernel
theorem dX5_drawGroup_27 : decode cX5_drawGroup 27 = .ok (.if_icmp .ge 36, 3) := by decide +kernel
theorem dX5_drawGroup_30 : decode cX5_drawGroup 30 = .ok (.aload_n 0, 1) := by decide +kernel
theorem dX5_drawGroup_31 : decode cX5_drawGroup 31 = .ok (.iload_n 3, 1) := by decide +kernel
theorem dX5_drawGroup_32 : decode cX5_drawGroup 32 = .ok (.iload 4, 2) := by decide +kernel
theorem dX5_drawGroup_34 : decode cX5_drawGroup 34 = .ok (.invokevirtual 121, 3) := by decide +kernel
theorem dX5_drawGroup_37 : decode cX5_drawGroup 37 = .ok (.istore 5, 2) := by decide +kernel
theorem dX5_drawGroup_39 : decode cX5_drawGroup 39 = .ok (.iload 5, 2) := by decide +kernel
theorem dX5_drawGroup_41 : decode cX5_drawGroup 41 = .ok (.iconst (-1), 1) := by decide +kernel
theorem dX5_drawGroup_42 : decode cX5_drawGroup 42 = .ok (.if_icmp .eq 15, 3) := by decide +kernel
theorem dX5_drawGroup_45 : decode cX5_drawGroup 45 = .ok (.aload_n 1, 1) := by decide +kernel
theorem dX5_drawGroup_46 : decode cX5_drawGroup 46 = .ok (.iload_n 2, 1) := by decide +kernel
theorem dX5_drawGroup_47 : decode cX5_drawGroup 47 = .ok (.iload 4, 2) := by decide +kernel
theorem dX5_drawGroup_49 : decode cX5_drawGroup 49 = .ok (.iload 4, 2) := by decide +kernel
theorem dX5_drawGroup_51 : decode cX5_drawGroup 51 = .ok (.iconst 0, 1) := by decide +kernel
theorem dX5_drawGroup_52 : decode cX5_drawGroup 52 = .ok (.iload 5, 2) := by decide +kernel
theorem dX5_drawGroup_54 : decode cX5_drawGroup 54 = .ok (.invokevirtual 124, 3) := by decide +kernel
theorem dX5_drawGroup_57 : decode cX5_drawGroup 57 = .ok (.iinc 4 1, 3) := by decide +kernel
theorem dX5_drawGroup_60 : decode cX5_drawGroup 60 = .ok (.goto (-37), 3) := by decide +kernel
theorem dX5_drawGroup_63 : decode cX5_drawGroup 63 = .ok (.return_, 1) := by decide +kernel
set_option maxRecDepth 20000 in
theorem ggX5_markUseful_X5_isWanted : GoodIn wsX5_markUseful wsX5_isWanted := goodIn_g _ [(7, 12), (24, 17)] (by exact rfl) (by decide +kernel)
set_option maxRecDepth 20000 in
theorem gX5_markUseful_X5_isWanted : GoodIn wsX5_markUseful (wsV RX5 91 RX5 yX5_isWanted wsX5_isWanted) := goodIn_app (goodIn_of _ (by decide +kernel)) ggX5_markUseful_X5_isWanted
set_option maxRecDepth 20000 in
theorem ggX5_markUseful_X5_leadsToUseful : GoodIn wsX5_markUseful wsX5_leadsToUseful := goodIn_g _ [(22, 2), (2, 1), (24, 13)] (by exact rfl) (by decide +kernel)
set_option maxRecDepth 20000 in
theorem gX5_markUseful_X5_leadsToUseful : GoodIn wsX5_markUseful (wsV RX5 128 RX5 yX5_leadsToUseful wsX5_leadsToUseful) := goodIn_app (goodIn_of _ (by decide +kernel)) ggX5_markUseful_X5_leadsToUseful
theorem dX5_markUseful_0 : decode cX5_markUseful 0 = .ok (.iconst 0, 1) := by decide +kernel
theorem dX5_markUseful_1 : decode cX5_markUseful 1 = .ok (.istore_n 1, 1) := by decide +kernel
theorem dX5_markUseful_2 : decode cX5_markUseful 2 = .ok (.iload_n 1, 1) := by decide +kernel
theorem dX5_markUseful_3 : decode cX5_markUseful 3 = .ok (.aload_n 0, 1) := by decide +kernel
theorem dX5_markUseful_4 : decode cX5_markUseful 4 = .ok (.getfield 41, 3) := by decide +kernel
theorem dX5_markUseful_7 : decode cX5_markUseful 7 = .ok (.if_icmp .ge 20, 3) := by decide +kernel
theorem dX5_markUseful_10 : decode cX5_markUseful 10 = .ok (.aload_n 0, 1) := by decide +kernel
theorem dX5_markUseful_11 : decode cX5_markUseful 11 = .ok (.getfield 44, 3) := by decide +kernel
theorem dX5_markUseful_14 : decode cX5_markUseful 14 = .ok (.iload_n 1, 1) := by decide +kernel
theorem dX5_markUseful_15 : decode cX5_markUseful 15 = .ok (.aload_n 0, 1) := by decide +kernel
theorem dX5_markUseful_16 : decode cX5_markUseful 16 = .ok (.iload_n 1, 1) := by decide +kernel
theorem dX5_markUseful_17 : decode cX5_markUseful 17 = .ok (.invokevirtual 91, 3) := by decide +kernel
theorem dX5_markUseful_20 : decode cX5_markUseful 20 = .ok (.bastore, 1) := by decide +kernel
theorem dX5_markUseful_21 : decode cX5_markUseful 21 = .ok (.iinc 1 1, 3) := by decide +kernel
theorem dX5_markUseful_24 : decode cX5_markUseful 24 = .ok (.goto (-22), 3) := by decide +kernel
theorem dX5_markUseful_27 : decode cX5_markUseful 27 = .ok (.iconst 1, 1) := by decide +kernel
theorem dX5_markUseful_28 : decode cX5_markUseful 28 = .ok (.istore_n 1, 1) := by decide +kernel
theorem dX5_markUseful_29 : decode cX5_markUseful 29 = .ok (.iconst 0, 1) := by decide +kernel
theorem dX5_markUseful_30 : decode cX5_markUseful 30 = .ok (.istore_n 2, 1) := by decide +kernel
theorem dX5_markUseful_31 : decode cX5_markUseful 31 = .ok (.iload_n 1, 1) := by decide +kernel
theorem dX5_markUseful_32 : decode cX5_markUseful 32 = .ok (.ifCond .eq 62, 3) := by decide +kernel
theorem dX5_markUseful_35 : decode cX5_markUseful 35 = .ok (.iload_n 2, 1) := by decide +kernel
theorem dX5_markUseful_36 : decode cX5_markUseful 36 = .ok (.aload_n 0, 1) := by decide +kernel
theorem dX5_markUseful_37 : decode cX5_markUseful 37 = .ok (.getfield 41, 3) := by decide +kernel
theorem dX5_markUseful_40 : decode cX5_markUseful 40 = .ok (.if_icmp .ge 54, 3) := by decide +kernel
theorem dX5_markUseful_43 : decode cX5_markUseful 43 = .ok (.iconst 0, 1) := by decide +kernel
theorem dX5_markUseful_44 : decode cX5_markUseful 44 = .ok (.istore_n 1, 1) := by decide +kernel
theorem dX5_markUseful_45 : decode cX5_markUseful 45 = .ok (.aload_n 0, 1) := by decide +kernel
theorem dX5_markUseful_46 : decode cX5_markUseful 46 = .ok (.getfield 41, 3) := by decide +kernel
theorem dX5_markUseful_49 : decode cX5_markUseful 49 = .ok (.iconst 1, 1) := by decide +kernel
theorem dX5_markUseful_50 : decode cX5_markUseful 50 = .ok (.isub, 1) := by decide +kernel
theorem dX5_markUseful_51 : decode cX5_markUseful 51 = .ok (.istore_n 3, 1) := by decide +kernel
theorem dX5_markUseful_52 : decode cX5_markUseful 52 = .ok (.iload_n 3, 1) := by decide +kernel
theorem dX5_markUseful_53 : decode cX5_markUseful 53 = .ok (.ifCond .lt 35, 3) := by decide +kernel
theorem dX5_markUseful_56 : decode cX5_markUseful 56 = .ok (.aload_n 0, 1) := by decide +kernel
theorem dX5_markUseful_57 : decode cX5_markUseful 57 = .ok (.getfield 44, 3) := by decide +kernel
theorem dX5_markUseful_60 : decode cX5_markUseful 60 = .ok (.iload_n 3, 1) := by decide +kernel
theorem dX5_markUseful_61 : decode cX5_markUseful 61 = .ok (.baload, 1) := by decide +kernel
theorem dX5_markUseful_62 : decode cX5_markUseful 62 = .ok (.ifCond .ne 20, 3) := by decide +kernel
theorem dX5_markUseful_65 : decode cX5_markUseful 65 = .ok (.aload_n 0, 1) := by decide +kernel
theorem dX5_markUseful_66 : decode cX5_markUseful 66 = .ok (.iload_n 3, 1) := by decide +kernel
theorem dX5_markUseful_67 : decode cX5_markUseful 67 = .ok (.invokevirtual 128, 3) := by decide +kernel
theorem dX5_markUseful_70 : decode cX5_markUseful 70 = .ok (.ifCond .eq 12, 3) := by decide +kernel
theorem dX5_markUseful_73 : decode cX5_markUseful 73 = .ok (.aload_n 0, 1) := by decide +kernel
theorem dX5_markUseful_74 : decode cX5_markUseful 74 = .ok (.getfield 44, 3) := by decide +kernel
theorem dX5_markUseful_77 : decode cX5_markUseful 77 = .ok (.iload_n 3, 1) := by decide +kernel
theorem dX5_markUseful_78 : decode cX5_markUseful 78 = .ok (.iconst 1, 1) := by decide +kernel
theorem dX5_markUseful_79 : decode cX5_markUseful 79 = .ok (.bastore, 1) := by decide +kernel
theorem dX5_markUseful_80 : decode cX5_markUseful 80 = .ok (.iconst 1, 1) := by decide +kernel
theorem dX5_markUseful_81 : decode cX5_markUseful 81 = .ok (.istore_n 1, 1) := by decide +kernel
theorem dX5_markUseful_82 : decode cX5_markUseful 82 = .ok (.iinc 3 (-1), 3) := by decide +kernel
theorem dX5_markUseful_85 : decode cX5_markUseful 85 = .ok (.goto (-33), 3) := by decide +kernel
theorem dX5_markUseful_88 : decode cX5_markUseful 88 = .ok (.iinc 2 1, 3) := by decide +kernel
theorem dX5_markUseful_91 : decode cX5_markUseful 91 = .ok (.goto (-60), 3) := by decide +kernel
theorem dX5_markUseful_94 : decode cX5_markUseful 94 = .ok (.return_, 1) := by decide +kernel
theorem dX5_leadsToUseful_0 : decode cX5_leadsToUseful 0 = .ok (.iconst 0, 1) := by decide +kernel
theorem dX5_leadsToUseful_1 : decode cX5_leadsToUseful 1 = .ok (.istore_n 2, 1) := by decide +kernel
theorem dX5_leadsToUseful_2 : decode cX5_leadsToUseful 2 = .ok (.iload_n 2, 1) := by decide +kernel
theorem dX5_leadsToUseful_3 : decode cX5_leadsToUseful 3 = .ok (.bipush 8, 2) := by decide +kernel
theorem dX5_leadsToUseful_5 : decode cX5_leadsToUseful 5 = .ok (.if_icmp .ge 36, 3) := by decide +kernel
theorem dX5_leadsToUseful_8 : decode cX5_leadsToUseful 8 = .ok (.aload_n 0, 1) := by decide +kernel
theorem dX5_leadsToUseful_9 : decode cX5_leadsToUseful 9 = .ok (.getfield 32, 3) := by decide +kernel
theorem dX5_leadsToUseful_12 : decode cX5_leadsToUseful 12 = .ok (.iload_n 1, 1) := by decide +kernel
theorem dX5_leadsToUseful_13 : decode cX5_leadsToUseful 13 = .ok (.bipush 8, 2) := by decide +kernel
theorem dX5_leadsToUseful_15 : decode cX5_leadsToUseful 15 = .ok (.imul, 1) := by decide +kernel
theorem dX5_leadsToUseful_16 : decode cX5_leadsToUseful 16 = .ok (.iload_n 2, 1) := by decide +kernel
theorem dX5_leadsToUseful_17 : decode cX5_leadsToUseful 17 = .ok (.iadd, 1) := by decide +kernel
theorem dX5_leadsToUseful_18 : decode cX5_leadsToUseful 18 = .ok (.iaload, 1) := by decide +kernel
theorem dX5_leadsToUseful_19 : decode cX5_leadsToUseful 19 = .ok (.istore_n 3, 1) := by decide +kernel
theorem dX5_leadsToUseful_20 : decode cX5_leadsToUseful 20 = .ok (.iload_n 3, 1) := by decide +kernel
theorem dX5_leadsToUseful_21 : decode cX5_leadsToUseful 21 = .ok (.ifCond .lt 14, 3) := by decide +kernel
theorem dX5_leadsToUseful_24 : decode cX5_leadsToUseful 24 = .ok (.aload_n 0, 1) := by decide +kernel
theorem dX5_leadsToUseful_25 : decode cX5_leadsToUseful 25 = .ok (.getfield 44, 3) := by decide +kernel
theorem dX5_leadsToUseful_28 : decode cX5_leadsToUseful 28 = .ok (.iload_n 3, 1) := by decide +kernel
theorem dX5_leadsToUseful_29 : decode cX5_leadsToUseful 29 = .ok (.baload, 1) := by decide +kernel
theorem dX5_leadsToUseful_30 : decode cX5_leadsToUseful 30 = .ok (.ifCond .eq 5, 3) := by decide +kernel
theorem dX5_leadsToUseful_33 : decode cX5_leadsToUseful 33 = .ok (.iconst 1, 1) := by decide +kernel
theorem dX5_leadsToUseful_34 : decode cX5_leadsToUseful 34 = .ok (.ireturn, 1) := by decide +kernel
theorem dX5_leadsToUseful_35 : decode cX5_leadsToUseful 35 = .ok (.iinc 2 1, 3) := by decide +kernel
theorem dX5_leadsToUseful_38 : decode cX5_leadsToUseful 38 = .ok (.goto (-36), 3) := by decide +kernel
theorem dX5_leadsToUseful_41 : decode cX5_leadsToUseful 41 = .ok (.iconst 0, 1) := by decide +kernel
theorem dX5_leadsToUseful_42 : decode cX5_leadsToUseful 42 = .ok (.ireturn, 1) := by decide +kernel
set_option maxRecDepth 20000 in
theorem ggX5_groupAlike_X5_isWanted : GoodIn wsX5_groupAlike wsX5_isWanted := goodIn_g _ [(8, 12), (39, 17)] (by exact rfl) (by decide +kernel)
set_option maxRecDepth 20000 in
theorem gX5_groupAlike_X5_isWanted : GoodIn wsX5_groupAlike (wsV RX5 91 RX5 yX5_isWanted wsX5_isWanted) := goodIn_app (goodIn_of _ (by decide +kernel)) ggX5_groupAlike_X5_isWanted
set_option maxRecDepth 20000 in
theorem ggX5_groupAlike_X5_splitGroups : GoodIn wsX5_groupAlike wsX5_splitGroups := goodIn_g _ [(23, 1), (1, 1), (24, 1), (3, 1), (25, 1), (2, 1), (26, 3), (7, 1), (29, 23)] (by exact rfl) (by decide +kernel)
set_option maxRecDepth 20000 in
theorem gX5_groupAlike_X5_splitGroups : GoodIn wsX5_groupAlike (wsV RX5 131 RX5 yX5_splitGroups wsX5_splitGroups) := goodIn_app (goodIn_of _ (by decide +kernel)) ggX5_groupAlike_X5_splitGroups
theorem dX5_groupAlike_0 : decode cX5_groupAlike 0 = .ok (.iconst 0, 1) := by decide +kernel
theorem dX5_groupAlike_1 : decode cX5_groupAlike 1 = .ok (.istore_n 1, 1) := by decide +kernel
theorem dX5_groupAlike_2 : decode cX5_groupAlike 2 = .ok (.iload_n 1, 1) := by decide +kernel
theorem dX5_groupAlike_3 : decode cX5_groupAlike 3 = .ok (.aload_n 0, 1) := by decide +kernel
theorem dX5_groupAlike_4 : decode cX5_groupAlike 4 = .ok (.getfield 41, 3) := by decide +kernel
theorem dX5_groupAlike_7 : decode cX5_groupAlike 7 = .ok (.if_icmp .ge 41, 3) := by decide +kernel
theorem dX5_groupAlike_10 : decode cX5_groupAlike 10 = .ok (.aload_n 0, 1) := by decide +kernel
theorem dX5_groupAlike_11 : decode cX5_groupAlike 11 = .ok (.getfield 48, 3) := by decide +kernel
theorem dX5_groupAlike_14 : decode cX5_groupAlike 14 = .ok (.iload_n 1, 1) := by decide +kernel
theorem dX5_groupAlike_15 : decode cX5_groupAlike 15 = .ok (.aload_n 0, 1) := by decide +kernel
theorem dX5_groupAlike_16 : decode cX5_groupAlike 16 = .ok (.getfield 44, 3) := by decide +kernel
theorem dX5_groupAlike_19 : decode cX5_groupAlike 19 = .ok (.iload_n 1, 1) := by decide +kernel
theorem dX5_groupAlike_20 : decode cX5_groupAlike 20 = .ok (.baload, 1) := by decide +kernel
theorem dX5_groupAlike_21 : decode cX5_groupAlike 21 = .ok (.ifCond .ne 7, 3) := by decide +kernel
theorem dX5_groupAlike_24 : decode cX5_groupAlike 24 = .ok (.iconst (-1), 1) := by decide +kernel
theorem dX5_groupAlike_25 : decode cX5_groupAlike 25 = .ok (.goto 16, 3) := by decide +kernel
theorem dX5_groupAlike_28 : decode cX5_groupAlike 28 = .ok (.aload_n 0, 1) := by decide +kernel
theorem dX5_groupAlike_29 : decode cX5_groupAlike 29 = .ok (.iload_n 1, 1) := by decide +kernel
theorem dX5_groupAlike_30 : decode cX5_groupAlike 30 = .ok (.invokevirtual 91, 3) := by decide +kernel
theorem dX5_groupAlike_33 : decode cX5_groupAlike 33 = .ok (.ifCond .eq 7, 3) := by decide +kernel
theorem dX5_groupAlike_36 : decode cX5_groupAlike 36 = .ok (.iconst 1, 1) := by decide +kernel
theorem dX5_groupAlike_37 : decode cX5_groupAlike 37 = .ok (.goto 4, 3) := by decide +kernel
theorem dX5_groupAlike_40 : decode cX5_groupAlike 40 = .ok (.iconst 0, 1) := by decide +kernel
theorem dX5_groupAlike_41 : decode cX5_groupAlike 41 = .ok (.iastore, 1) := by decide +kernel
theorem dX5_groupAlike_42 : decode cX5_groupAlike 42 = .ok (.iinc 1 1, 3) := by decide +kernel
theorem dX5_groupAlike_45 : decode cX5_groupAlike 45 = .ok (.goto (-43), 3) := by decide +kernel
theorem dX5_groupAlike_48 : decode cX5_groupAlike 48 = .ok (.iconst 0, 1) := by decide +kernel
theorem dX5_groupAlike_49 : decode cX5_groupAlike 49 = .ok (.istore_n 1, 1) := by decide +kernel
theorem dX5_groupAlike_50 : decode cX5_groupAlike 50 = .ok (.iconst 0, 1) := by decide +kernel
theorem dX5_groupAlike_51 : decode cX5_groupAlike 51 = .ok (.istore_n 2, 1) := by decide +kernel
theorem dX5_groupAlike_52 : decode cX5_groupAlike 52 = .ok (.iload_n 2, 1) := by decide +kernel
theorem dX5_groupAlike_53 : decode cX5_groupAlike 53 = .ok (.bipush 33, 2) := by decide +kernel
theorem dX5_groupAlike_55 : decode cX5_groupAlike 55 = .ok (.if_icmp .gt 29, 3) := by decide +kernel
theorem dX5_groupAlike_58 : decode cX5_groupAlike 58 = .ok (.aload_n 0, 1) := by decide +kernel
theorem dX5_groupAlike_59 : decode cX5_groupAlike 59 = .ok (.invokevirtual 131, 3) := by decide +kernel
theorem dX5_groupAlike_62 : decode cX5_groupAlike 62 = .ok (.istore_n 3, 1) := by decide +kernel
theorem dX5_groupAlike_63 : decode cX5_groupAlike 63 = .ok (.iload_n 3, 1) := by decide +kernel
theorem dX5_groupAlike_64 : decode cX5_groupAlike 64 = .ok (.iload_n 1, 1) := by decide +kernel
theorem dX5_groupAlike_65 : decode cX5_groupAlike 65 = .ok (.if_icmp .eq 9, 3) := by decide +kernel
theorem dX5_groupAlike_68 : decode cX5_groupAlike 68 = .ok (.iload_n 3, 1) := by decide +kernel
theorem dX5_groupAlike_69 : decode cX5_groupAlike 69 = .ok (.bipush 32, 2) := by decide +kernel
theorem dX5_groupAlike_71 : decode cX5_groupAlike 71 = .ok (.if_icmp .le 5, 3) := by decide +kernel
theorem dX5_groupAlike_74 : decode cX5_groupAlike 74 = .ok (.iload_n 3, 1) := by decide +kernel
theorem dX5_groupAlike_75 : decode cX5_groupAlike 75 = .ok (.ireturn, 1) := by decide +kernel
theorem dX5_groupAlike_76 : decode cX5_groupAlike 76 = .ok (.iload_n 3, 1) := by decide +kernel
theorem dX5_groupAlike_77 : decode cX5_groupAlike 77 = .ok (.istore_n 1, 1) := by decide +kernel
theorem dX5_groupAlike_78 : decode cX5_groupAlike 78 = .ok (.iinc 2 1, 3) := by decide +kernel
theorem dX5_groupAlike_81 : decode cX5_groupAlike 81 = .ok (.goto (-29), 3) := by decide +kernel
theorem dX5_groupAlike_84 : decode cX5_groupAlike 84 = .ok (.iload_n 1, 1) := by decide +kernel
theorem dX5_groupAlike_85 : decode cX5_groupAlike 85 = .ok (.ireturn, 1) := by decide +kernel
set_option maxRecDepth 20000 in
theorem ggX5_splitGroups_X5_groupLike : GoodIn wsX5_splitGroups wsX5_groupLike := goodIn_g _ [(10, 1), (4, 1), (11, 3), (9, 1), (14, 1), (5, 1), (15, 18)] (by exact rfl) (by decide +kernel)
set_option maxRecDepth 20000 in
theorem gX5_splitGroups_X5_groupLike : GoodIn wsX5_splitGroups (wsV RX5 134 RX5 yX5_groupLike wsX5_groupLike) := goodIn_app (goodIn_of _ (by decide +kernel)) ggX5_splitGroups_X5_groupLike
theorem dX5_splitGroups_0 : decode cX5_splitGroups 0 = .ok (.iconst 0, 1) := by decide +kernel
theorem dX5_splitGroups_1 : decode cX5_splitGroups 1 = .ok (.istore_n 1, 1) := by decide +kernel
theorem dX5_splitGroups_2 : decode cX5_splitGroups 2 = .ok (.iconst 0, 1) := by decide +kernel
theorem dX5_splitGroups_3 : decode cX5_splitGroups 3 = .ok (.istore_n 2, 1) := by decide +kernel
theorem dX5_splitGroups_4 : decode cX5_splitGroups 4 = .ok (.iload_n 2, 1) := by decide +kernel
theorem dX5_splitGroups_5 : decode cX5_splitGroups 5 = .ok (.aload_n 0, 1) := by decide +kernel
theorem dX5_splitGroups_6 : decode cX5_splitGroups 6 = .ok (.getfield 41, 3) := by decide +kernel
theorem dX5_splitGroups_9 : decode cX5_splitGroups 9 = .ok (.if_icmp .ge 63, 3) := by decide +kernel
theorem dX5_splitGroups_12 : decode cX5_splitGroups 12 = .ok (.aload_n 0, 1) := by decide +kernel
theorem dX5_splitGroups_13 : decode cX5_splitGroups 13 = .ok (.getfield 51, 3) := by decide +kernel
theorem dX5_splitGroups_16 : decode cX5_splitGroups 16 = .ok (.iload_n 2, 1) := by decide +kernel
theorem dX5_splitGroups_17 : decode cX5_splitGroups 17 = .ok (.iconst (-1), 1) := by decide +kernel
theorem dX5_splitGroups_18 : decode cX5_splitGroups 18 = .ok (.iastore, 1) := by decide +kernel
theorem dX5_splitGroups_19 : decode cX5_splitGroups 19 = .ok (.aload_n 0, 1) := by decide +kernel
theorem dX5_splitGroups_20 : decode cX5_splitGroups 20 = .ok (.getfield 44, 3) := by decide +kernel
theorem dX5_splitGroups_23 : decode cX5_splitGroups 23 = .ok (.iload_n 2, 1) := by decide +kernel
theorem dX5_splitGroups_24 : decode cX5_splitGroups 24 = .ok (.baload, 1) := by decide +kernel
theorem dX5_splitGroups_25 : decode cX5_splitGroups 25 = .ok (.ifCond .eq 41, 3) := by decide +kernel
theorem dX5_splitGroups_28 : decode cX5_splitGroups 28 = .ok (.aload_n 0, 1) := by decide +kernel
theorem dX5_splitGroups_29 : decode cX5_splitGroups 29 = .ok (.iload_n 2, 1) := by decide +kernel
theorem dX5_splitGroups_30 : decode cX5_splitGroups 30 = .ok (.iload_n 1, 1) := by decide +kernel
theorem dX5_splitGroups_31 : decode cX5_splitGroups 31 = .ok (.invokevirtual 134, 3) := by decide +kernel
theorem dX5_splitGroups_34 : decode cX5_splitGroups 34 = .ok (.istore_n 3, 1) := by decide +kernel
theorem dX5_splitGroups_35 : decode cX5_splitGroups 35 = .ok (.iload_n 3, 1) := by decide +kernel
theorem dX5_splitGroups_36 : decode cX5_splitGroups 36 = .ok (.iload_n 1, 1) := by decide +kernel
theorem dX5_splitGroups_37 : decode cX5_splitGroups 37 = .ok (.if_icmp .ne 22, 3) := by decide +kernel
theorem dX5_splitGroups_40 : decode cX5_splitGroups 40 = .ok (.iload_n 1, 1) := by decide +kernel
theorem dX5_splitGroups_41 : decode cX5_splitGroups 41 = .ok (.bipush 32, 2) := by decide +kernel
theorem dX5_splitGroups_43 : decode cX5_splitGroups 43 = .ok (.if_icmp .lt 6, 3) := by decide +kernel
theorem dX5_splitGroups_46 : decode cX5_splitGroups 46 = .ok (.bipush 33, 2) := by decide +kernel
theorem dX5_splitGroups_48 : decode cX5_splitGroups 48 = .ok (.ireturn, 1) := by decide +kernel
theorem dX5_splitGroups_49 : decode cX5_splitGroups 49 = .ok (.aload_n 0, 1) := by decide +kernel
theorem dX5_splitGroups_50 : decode cX5_splitGroups 50 = .ok (.getfield 54, 3) := by decide +kernel
theorem dX5_splitGroups_53 : decode cX5_splitGroups 53 = .ok (.iload_n 1, 1) := by decide +kernel
theorem dX5_splitGroups_54 : decode cX5_splitGroups 54 = .ok (.iload_n 2, 1) := by decide +kernel
theorem dX5_splitGroups_55 : decode cX5_splitGroups 55 = .ok (.iastore, 1) := by decide +kernel
theorem dX5_splitGroups_56 : decode cX5_splitGroups 56 = .ok (.iinc 1 1, 3) := by decide +kernel
theorem dX5_splitGroups_59 : decode cX5_splitGroups 59 = .ok (.aload_n 0, 1) := by decide +kernel
theorem dX5_splitGroups_60 : decode cX5_splitGroups 60 = .ok (.getfield 51, 3) := by decide +kernel
theorem dX5_splitGroups_63 : decode cX5_splitGroups 63 = .ok (.iload_n 2, 1) := by decide +kernel
theorem dX5_splitGroups_64 : decode cX5_splitGroups 64 = .ok (.iload_n 3, 1) := by decide +kernel
theorem dX5_splitGroups_65 : decode cX5_splitGroups 65 = .ok (.iastore, 1) := by decide +kernel
theorem dX5_splitGroups_66 : decode cX5_splitGroups 66 = .ok (.iinc 2 1, 3) := by decide +kernel
theorem dX5_splitGroups_69 : decode cX5_splitGroups 69 = .ok (.goto (-65), 3) := by decide +kernel
theorem dX5_splitGroups_72 : decode cX5_splitGroups 72 = .ok (.aload_n 0, 1) := by decide +kernel
theorem dX5_splitGroups_73 : decode cX5_splitGroups 73 = .ok (.getfield 48, 3) := by decide +kernel
theorem dX5_splitGroups_76 : decode cX5_splitGroups 76 = .ok (.astore_n 2, 1) := by decide +kernel
theorem dX5_splitGroups_77 : decode cX5_splitGroups 77 = .ok (.aload_n 0, 1) := by decide +kernel
theorem dX5_splitGroups_78 : decode cX5_splitGroups 78 = .ok (.aload_n 0, 1) := by decide +kernel
theorem dX5_splitGroups_79 : decode cX5_splitGroups 79 = .ok (.getfield 51, 3) := by decide +kernel
theorem dX5_splitGroups_82 : decode cX5_splitGroups 82 = .ok (.putfield 48, 3) := by decide +kernel
theorem dX5_splitGroups_85 : decode cX5_splitGroups 85 = .ok (.aload_n 0, 1) := by decide +kernel
theorem dX5_splitGroups_86 : decode cX5_splitGroups 86 = .ok (.aload_n 2, 1) := by decide +kernel
theorem dX5_splitGroups_87 : decode cX5_splitGroups 87 = .ok (.putfield 51, 3) := by decide +kernel
theorem dX5_splitGroups_90 : decode cX5_splitGroups 90 = .ok (.iload_n 1, 1) := by decide +kernel
theorem dX5_splitGroups_91 : decode cX5_splitGroups 91 = .ok (.ireturn, 1) := by decide +kernel
set_option maxRecDepth 20000 in
theorem ggX5_groupLike_X5_areAlike : GoodIn wsX5_groupLike wsX5_areAlike := goodIn_g _ [(6, 5), (5, 1), (11, 15)] (by exact rfl) (by decide +kernel)
set_option maxRecDepth 20000 in
theorem gX5_groupLike_X5_areAlike : GoodIn wsX5_groupLike (wsV RX5 137 RX5 yX5_areAlike wsX5_areAlike) := goodIn_app (goodIn_of _ (by decide +kernel)) ggX5_groupLike_X5_areAlike
theorem dX5_groupLike_0 : decode cX5_groupLike 0 = .ok (.iconst 0, 1) := by decide +kernel
theorem dX5_groupLike_1 : decode cX5_groupLike 1 = .ok (.istore_n 3, 1) := by decide +kernel
theorem dX5_groupLike_2 : decode cX5_groupLike 2 = .ok (.iload_n 3, 1) := by decide +kernel
theorem dX5_groupLike_3 : decode cX5_groupLike 3 = .ok (.iload_n 2, 1) := by decide +kernel
theorem dX5_groupLike_4 : decode cX5_groupLike 4 = .ok (.if_icmp .ge 25, 3) := by decide +kernel
theorem dX5_groupLike_7 : decode cX5_groupLike 7 = .ok (.aload_n 0, 1) := by decide +kernel
theorem dX5_groupLike_8 : decode cX5_groupLike 8 = .ok (.aload_n 0, 1) := by decide +kernel
theorem dX5_groupLike_9 : decode cX5_groupLike 9 = .ok (.getfield 54, 3) := by decide +kernel
theorem dX5_groupLike_12 : decode cX5_groupLike 12 = .ok (.iload_n 3, 1) := by decide +kernel
theorem dX5_groupLike_13 : decode cX5_groupLike 13 = .ok (.iaload, 1) := by decide +kernel
theorem dX5_groupLike_14 : decode cX5_groupLike 14 = .ok (.iload_n 1, 1) := by decide +kernel
theorem dX5_groupLike_15 : decode cX5_groupLike 15 = .ok (.invokevirtual 137, 3) := by decide +kernel
theorem dX5_groupLike_18 : decode cX5_groupLike 18 = .ok (.ifCond .eq 5, 3) := by decide +kernel
theorem dX5_groupLike_21 : decode cX5_groupLike 21 = .ok (.iload_n 3, 1) := by decide +kernel
theorem dX5_groupLike_22 : decode cX5_groupLike 22 = .ok (.ireturn, 1) := by decide +kernel
theorem dX5_groupLike_23 : decode cX5_groupLike 23 = .ok (.iinc 3 1, 3) := by decide +kernel
theorem dX5_groupLike_26 : decode cX5_groupLike 26 = .ok (.goto (-24), 3) := by decide +kernel
theorem dX5_groupLike_29 : decode cX5_groupLike 29 = .ok (.iload_n 2, 1) := by decide +kernel
theorem dX5_groupLike_30 : decode cX5_groupLike 30 = .ok (.ireturn, 1) := by decide +kernel
set_option maxRecDepth 20000 in
theorem ggX5_areAlike_X5_groupBehind : GoodIn wsX5_areAlike wsX5_groupBehind := goodIn_g _ [(6, 2), (1, 1), (8, 13)] (by exact rfl) (by decide +kernel)
set_option maxRecDepth 20000 in
theorem gX5_areAlike_X5_groupBehind : GoodIn wsX5_areAlike (wsV RX5 121 RX5 yX5_groupBehind wsX5_groupBehind) := goodIn_app (goodIn_of _ (by decide +kernel)) ggX5_areAlike_X5_groupBehind
theorem dX5_areAlike_0 : decode cX5_areAlike 0 = .ok (.aload_n 0, 1) := by decide +kernel
theorem dX5_areAlike_1 : decode cX5_areAlike 1 = .ok (.getfield 48, 3) := by decide +kernel
theorem dX5_areAlike_4 : decode cX5_areAlike 4 = .ok (.iload_n 1, 1) := by decide +kernel
theorem dX5_areAlike_5 : decode cX5_areAlike 5 = .ok (.iaload, 1) := by decide +kernel
theorem dX5_areAlike_6 : decode cX5_areAlike 6 = .ok (.aload_n 0, 1) := by decide +kernel
theorem dX5_areAlike_7 : decode cX5_areAlike 7 = .ok (.getfield 48, 3) := by decide +kernel
theorem dX5_areAlike_10 : decode cX5_areAlike 10 = .ok (.iload_n 2, 1) := by decide +kernel
theorem dX5_areAlike_11 : decode cX5_areAlike 11 = .ok (.iaload, 1) := by decide +kernel
theorem dX5_areAlike_12 : decode cX5_areAlike 12 = .ok (.if_icmp .eq 5, 3) := by decide +kernel
theorem dX5_areAlike_15 : decode cX5_areAlike 15 = .ok (.iconst 0, 1) := by decide +kernel
theorem dX5_areAlike_16 : decode cX5_areAlike 16 = .ok (.ireturn, 1) := by decide +kernel
theorem dX5_areAlike_17 : decode cX5_areAlike 17 = .ok (.iconst 0, 1) := by decide +kernel
theorem dX5_areAlike_18 : decode cX5_areAlike 18 = .ok (.istore_n 3, 1) := by decide +kernel
theorem dX5_areAlike_19 : decode cX5_areAlike 19 = .ok (.iload_n 3, 1) := by decide +kernel
theorem dX5_areAlike_20 : decode cX5_areAlike 20 = .ok (.bipush 8, 2) := by decide +kernel
theorem dX5_areAlike_22 : decode cX5_areAlike 22 = .ok (.if_icmp .ge 26, 3) := by decide +kernel
theorem dX5_areAlike_25 : decode cX5_areAlike 25 = .ok (.aload_n 0, 1) := by decide +kernel
theorem dX5_areAlike_26 : decode cX5_areAlike 26 = .ok (.iload_n 1, 1) := by decide +kernel
theorem dX5_areAlike_27 : decode cX5_areAlike 27 = .ok (.iload_n 3, 1) := by decide +kernel
theorem dX5_areAlike_28 : decode cX5_areAlike 28 = .ok (.invokevirtual 121, 3) := by decide +kernel
theorem dX5_areAlike_31 : decode cX5_areAlike 31 = .ok (.aload_n 0, 1) := by decide +kernel
theorem dX5_areAlike_32 : decode cX5_areAlike 32 = .ok (.iload_n 2, 1) := by decide +kernel
theorem dX5_areAlike_33 : decode cX5_areAlike 33 = .ok (.iload_n 3, 1) := by decide +kernel
theorem dX5_areAlike_34 : decode cX5_areAlike 34 = .ok (.invokevirtual 121, 3) := by decide +kernel
theorem dX5_areAlike_37 : decode cX5_areAlike 37 = .ok (.if_icmp .eq 5, 3) := by decide +kernel
theorem dX5_areAlike_40 : decode cX5_areAlike 40 = .ok (.iconst 0, 1) := by decide +kernel
theorem dX5_areAlike_41 : decode cX5_areAlike 41 = .ok (.ireturn, 1) := by decide +kernel
theorem dX5_areAlike_42 : decode cX5_areAlike 42 = .ok (.iinc 3 1, 3) := by decide +kernel
theorem dX5_areAlike_45 : decode cX5_areAlike 45 = .ok (.goto (-26), 3) := by decide +kernel
theorem dX5_areAlike_48 : decode cX5_areAlike 48 = .ok (.iconst 1, 1) := by decide +kernel
theorem dX5_areAlike_49 : decode cX5_areAlike 49 = .ok (.ireturn, 1) := by decide +kernel
theorem dX5_groupBehind_0 : decode cX5_groupBehind 0 = .ok (.aload_n 0, 1) := by decide +kernel
theorem dX5_groupBehind_1 : decode cX5_groupBehind 1 = .ok (.getfield 32, 3) := by decide +kernel
theorem dX5_groupBehind_4 : decode cX5_groupBehind 4 = .ok (.iload_n 1, 1) := by decide +kernel
theorem dX5_groupBehind_5 : decode cX5_groupBehind 5 = .ok (.bipush 8, 2) := by decide +kernel
theorem dX5_groupBehind_7 : decode cX5_groupBehind 7 = .ok (.imul, 1) := by decide +kernel
theorem dX5_groupBehind_8 : decode cX5_groupBehind 8 = .ok (.iload_n 2, 1) := by decide +kernel
theorem dX5_groupBehind_9 : decode cX5_groupBehind 9 = .ok (.iadd, 1) := by decide +kernel
theorem dX5_groupBehind_10 : decode cX5_groupBehind 10 = .ok (.iaload, 1) := by decide +kernel
theorem dX5_groupBehind_11 : decode cX5_groupBehind 11 = .ok (.istore_n 3, 1) := by decide +kernel
theorem dX5_groupBehind_12 : decode cX5_groupBehind 12 = .ok (.iload_n 3, 1) := by decide +kernel
theorem dX5_groupBehind_13 : decode cX5_groupBehind 13 = .ok (.ifCond .ge 7, 3) := by decide +kernel
theorem dX5_groupBehind_16 : decode cX5_groupBehind 16 = .ok (.iconst (-1), 1) := by decide +kernel
theorem dX5_groupBehind_17 : decode cX5_groupBehind 17 = .ok (.goto 9, 3) := by decide +kernel
theorem dX5_groupBehind_20 : decode cX5_groupBehind 20 = .ok (.aload_n 0, 1) := by decide +kernel
theorem dX5_groupBehind_21 : decode cX5_groupBehind 21 = .ok (.getfield 48, 3) := by decide +kernel
theorem dX5_groupBehind_24 : decode cX5_groupBehind 24 = .ok (.iload_n 3, 1) := by decide +kernel
theorem dX5_groupBehind_25 : decode cX5_groupBehind 25 = .ok (.iaload, 1) := by decide +kernel
theorem dX5_groupBehind_26 : decode cX5_groupBehind 26 = .ok (.ireturn, 1) := by decide +kernel
theorem dX6_init_0 : decode cX6_init 0 = .ok (.aload_n 0, 1) := by decide +kernel
theorem dX6_init_1 : decode cX6_init 1 = .ok (.invokespecial 3, 3) := by decide +kernel
theorem dX6_init_4 : decode cX6_init 4 = .ok (.aload_n 0, 1) := by decide +kernel
theorem dX6_init_5 : decode cX6_init 5 = .ok (.bipush 32, 2) := by decide +kernel
theorem dX6_init_7 : decode cX6_init 7 = .ok (.newarray .int, 2) := by decide +kernel
theorem dX6_init_9 : decode cX6_init 9 = .ok (.putfield 9, 3) := by decide +kernel
theorem dX6_init_12 : decode cX6_init 12 = .ok (.aload_n 0, 1) := by decide +kernel
theorem dX6_init_13 : decode cX6_init 13 = .ok (.sipush 256, 3) := by decide +kernel
theorem dX6_init_16 : decode cX6_init 16 = .ok (.newarray .int, 2) := by decide +kernel
theorem dX6_init_18 : decode cX6_init 18 = .ok (.putfield 15, 3) := by decide +kernel
theorem dX6_init_21 : decode cX6_init 21 = .ok (.aload_n 0, 1) := by decide +kernel
theorem dX6_init_22 : decode cX6_init 22 = .ok (.iconst 0, 1) := by decide +kernel
theorem dX6_init_23 : decode cX6_init 23 = .ok (.putfield 18, 3) := by decide +kernel
theorem dX6_init_26 : decode cX6_init 26 = .ok (.aload_n 0, 1) := by decide +kernel
theorem dX6_init_27 : decode cX6_init 27 = .ok (.iconst 0, 1) := by decide +kernel
theorem dX6_init_28 : decode cX6_init 28 = .ok (.putfield 22, 3) := by decide +kernel
theorem dX6_init_31 : decode cX6_init 31 = .ok (.return_, 1) := by decide +kernel
theorem dX6_takeNothing_0 : decode cX6_takeNothing 0 = .ok (.aload_n 0, 1) := by decide +kernel
theorem dX6_takeNothing_1 : decode cX6_takeNothing 1 = .ok (.iconst 0, 1) := by decide +kernel
theorem dX6_takeNothing_2 : decode cX6_takeNothing 2 = .ok (.putfield 18, 3) := by decide +kernel
theorem dX6_takeNothing_5 : decode cX6_takeNothing 5 = .ok (.aload_n 0, 1) := by decide +kernel
theorem dX6_takeNothing_6 : decode cX6_takeNothing 6 = .ok (.iconst 0, 1) := by decide +kernel
theorem dX6_takeNothing_7 : decode cX6_takeNothing 7 = .ok (.putfield 22, 3) := by decide +kernel
theorem dX6_takeNothing_10 : decode cX6_takeNothing 10 = .ok (.return_, 1) := by decide +kernel
set_option maxRecDepth 20000 in
theorem ggX6_take_X6_findClosures : GoodIn wsX6_take wsX6_findClosures := goodIn_g _ [(14, 1), (2, 1), (9, 1), (6, 3), (15, 7), (25, 4), (22, 3), (29, 3)] (by exact rfl) (by decide +kernel)
set_option maxRecDepth 20000 in
theorem gX6_take_X6_findClosures : GoodIn wsX6_take (wsV RX6 29 RX6 yX6_findClosures wsX6_findClosures) := goodIn_app (goodIn_of _ (by decide +kernel)) ggX6_take_X6_findClosures
set_option maxRecDepth 20000 in
theorem ggX6_take_X7_upperOf : GoodIn wsX6_take wsX7_upperOf := goodIn_g _ [(21, 1)] (by exact rfl) (by decide +kernel)
set_option maxRecDepth 20000 in
theorem gX6_take_X7_upperOf_n45 : GoodIn wsX6_take (wsX7_upperOf) := ggX6_take_X7_upperOf
set_option maxRecDepth 20000 in
theorem ggX6_take_X7_fromOf : GoodIn wsX6_take wsX7_fromOf := goodIn_g _ [(17, 1)] (by exact rfl) (by decide +kernel)
set_option maxRecDepth 20000 in
theorem gX6_take_X7_fromOf_n49 : GoodIn wsX6_take (wsX7_fromOf) := ggX6_take_X7_fromOf
set_option maxRecDepth 20000 in
theorem ggX6_take_X7_toOf : GoodIn wsX6_take wsX7_toOf := goodIn_g _ [(19, 1)] (by exact rfl) (by decide +kernel)
set_option maxRecDepth 20000 in
theorem gX6_take_X7_toOf_n52 : GoodIn wsX6_take (wsX7_toOf) := ggX6_take_X7_toOf
theorem dX6_take_0 : decode cX6_take 0 = .ok (.aload_n 0, 1) := by decide +kernel
theorem dX6_take_1 : decode cX6_take 1 = .ok (.aload_n 1, 1) := by decide +kernel
theorem dX6_take_2 : decode cX6_take 2 = .ok (.getfield 25, 3) := by decide +kernel
theorem dX6_take_5 : decode cX6_take 5 = .ok (.putfield 18, 3) := by decide +kernel
theorem dX6_take_8 : decode cX6_take 8 = .ok (.aload_n 0, 1) := by decide +kernel
theorem dX6_take_9 : decode cX6_take 9 = .ok (.aload_n 1, 1) := by decide +kernel
theorem dX6_take_10 : decode cX6_take 10 = .ok (.getfield 28, 3) := by decide +kernel
theorem dX6_take_13 : decode cX6_take 13 = .ok (.putfield 22, 3) := by decide +kernel
theorem dX6_take_16 : decode cX6_take 16 = .ok (.aload_n 0, 1) := by decide +kernel
theorem dX6_take_17 : decode cX6_take 17 = .ok (.aload_n 1, 1) := by decide +kernel
theorem dX6_take_18 : decode cX6_take 18 = .ok (.invokevirtual 29, 3) := by decide +kernel
theorem dX6_take_21 : decode cX6_take 21 = .ok (.iconst 0, 1) := by decide +kernel
theorem dX6_take_22 : decode cX6_take 22 = .ok (.istore_n 2, 1) := by decide +kernel
theorem dX6_take_23 : decode cX6_take 23 = .ok (.iload_n 2, 1) := by decide +kernel
theorem dX6_take_24 : decode cX6_take 24 = .ok (.aload_n 0, 1) := by decide +kernel
theorem dX6_take_25 : decode cX6_take 25 = .ok (.getfield 18, 3) := by decide +kernel
theorem dX6_take_28 : decode cX6_take 28 = .ok (.bipush 8, 2) := by decide +kernel
theorem dX6_take_30 : decode cX6_take 30 = .ok (.imul, 1) := by decide +kernel
theorem dX6_take_31 : decode cX6_take 31 = .ok (.if_icmp .ge 16, 3) := by decide +kernel
theorem dX6_take_34 : decode cX6_take 34 = .ok (.aload_n 0, 1) := by decide +kernel
theorem dX6_take_35 : decode cX6_take 35 = .ok (.getfield 15, 3) := by decide +kernel
theorem dX6_take_38 : decode cX6_take 38 = .ok (.iload_n 2, 1) := by decide +kernel
theorem dX6_take_39 : decode cX6_take 39 = .ok (.iconst 0, 1) := by decide +kernel
theorem dX6_take_40 : decode cX6_take 40 = .ok (.iastore, 1) := by decide +kernel
theorem dX6_take_41 : decode cX6_take 41 = .ok (.iinc 2 1, 3) := by decide +kernel
theorem dX6_take_44 : decode cX6_take 44 = .ok (.goto (-21), 3) := by decide +kernel
theorem dX6_take_47 : decode cX6_take 47 = .ok (.iconst 0, 1) := by decide +kernel
theorem dX6_take_48 : decode cX6_take 48 = .ok (.istore_n 2, 1) := by decide +kernel
theorem dX6_take_49 : decode cX6_take 49 = .ok (.iload_n 2, 1) := by decide +kernel
theorem dX6_take_50 : decode cX6_take 50 = .ok (.aload_n 1, 1) := by decide +kernel
theorem dX6_take_51 : decode cX6_take 51 = .ok (.getfield 33, 3) := by decide +kernel
theorem dX6_take_54 : decode cX6_take 54 = .ok (.getfield 37, 3) := by decide +kernel
theorem dX6_take_57 : decode cX6_take 57 = .ok (.if_icmp .ge 57, 3) := by decide +kernel
theorem dX6_take_60 : decode cX6_take 60 = .ok (.aload_n 1, 1) := by decide +kernel
theorem dX6_take_61 : decode cX6_take 61 = .ok (.getfield 33, 3) := by decide +kernel
theorem dX6_take_64 : decode cX6_take 64 = .ok (.getfield 42, 3) := by decide +kernel
theorem dX6_take_67 : decode cX6_take 67 = .ok (.iload_n 2, 1) := by decide +kernel
theorem dX6_take_68 : decode cX6_take 68 = .ok (.iaload, 1) := by decide +kernel
theorem dX6_take_69 : decode cX6_take 69 = .ok (.istore_n 3, 1) := by decide +kernel
theorem dX6_take_70 : decode cX6_take 70 = .ok (.iload_n 3, 1) := by decide +kernel
theorem dX6_take_71 : decode cX6_take 71 = .ok (.invokestatic 45, 3) := by decide +kernel
theorem dX6_take_74 : decode cX6_take 74 = .ok (.bipush 8, 2) := by decide +kernel
theorem dX6_take_76 : decode cX6_take 76 = .ok (.if_icmp .eq 32, 3) := by decide +kernel
theorem dX6_take_79 : decode cX6_take 79 = .ok (.aload_n 0, 1) := by decide +kernel
theorem dX6_take_80 : decode cX6_take 80 = .ok (.getfield 15, 3) := by decide +kernel
theorem dX6_take_83 : decode cX6_take 83 = .ok (.iload_n 3, 1) := by decide +kernel
theorem dX6_take_84 : decode cX6_take 84 = .ok (.invokestatic 49, 3) := by decide +kernel
theorem dX6_take_87 : decode cX6_take 87 = .ok (.bipush 8, 2) := by decide +kernel
theorem dX6_take_89 : decode cX6_take 89 = .ok (.imul, 1) := by decide +kernel
theorem dX6_take_90 : decode cX6_take 90 = .ok (.iload_n 3, 1) := by decide +kernel
theorem dX6_take_91 : decode cX6_take 91 = .ok (.invokestatic 45, 3) := by decide +kernel
theorem dX6_take_94 : decode cX6_take 94 = .ok (.iadd, 1) := by decide +kernel
theorem dX6_take_95 : decode cX6_take 95 = .ok (.dup2, 1) := by decide +kernel
theorem dX6_take_96 : decode cX6_take 96 = .ok (.iaload, 1) := by decide +kernel
theorem dX6_take_97 : decode cX6_take 97 = .ok (.aload_n 0, 1) := by decide +kernel
theorem dX6_take_98 : decode cX6_take 98 = .ok (.getfield 9, 3) := by decide +kernel
theorem dX6_take_101 : decode cX6_take 101 = .ok (.iload_n 3, 1) := by decide +kernel
theorem dX6_take_102 : decode cX6_take 102 = .ok (.invokestatic 52, 3) := by decide +kernel
theorem dX6_take_105 : decode cX6_take 105 = .ok (.iaload, 1) := by decide +kernel
theorem dX6_take_106 : decode cX6_take 106 = .ok (.ior, 1) := by decide +kernel
theorem dX6_take_107 : decode cX6_take 107 = .ok (.iastore, 1) := by decide +kernel
theorem dX6_take_108 : decode cX6_take 108 = .ok (.iinc 2 1, 3) := by decide +kernel
theorem dX6_take_111 : decode cX6_take 111 = .ok (.goto (-62), 3) := by decide +kernel
theorem dX6_take_114 : decode cX6_take 114 = .ok (.return_, 1) := by decide +kernel
set_option maxRecDepth 20000 in
theorem ggX6_findClosures_X7_fromOf : GoodIn wsX6_findClosures wsX7_fromOf := goodIn_g _ [(8, 1)] (by exact rfl) (by decide +kernel)
set_option maxRecDepth 20000 in
theorem gX6_findClosures_X7_fromOf_n49 : GoodIn wsX6_findClosures (wsX7_fromOf) := ggX6_findClosures_X7_fromOf
set_option maxRecDepth 20000 in
theorem ggX6_findClosures_X7_toOf : GoodIn wsX6_findClosures wsX7_toOf := goodIn_g _ [(10, 1)] (by exact rfl) (by decide +kernel)
set_option maxRecDepth 20000 in
theorem gX6_findClosures_X7_toOf_n52 : GoodIn wsX6_findClosures (wsX7_toOf) := ggX6_findClosures_X7_toOf
set_option maxRecDepth 20000 in
theorem ggX6_findClosures_X7_upperOf : GoodIn wsX6_findClosures wsX7_upperOf := goodIn_g _ [(12, 1)] (by exact rfl) (by decide +kernel)
set_option maxRecDepth 20000 in
theorem gX6_findClosures_X7_upperOf_n45 : GoodIn wsX6_findClosures (wsX7_upperOf) := ggX6_findClosures_X7_upperOf
theorem dX6_findClosures_0 : decode cX6_findClosures 0 = .ok (.iconst 0, 1) := by decide +kernel
theorem dX6_findClosures_1 : decode cX6_findClosures 1 = .ok (.istore_n 2, 1) := by decide +kernel
theorem dX6_findClosures_2 : decode cX6_findClosures 2 = .ok (.iload_n 2, 1) := by decide +kernel
theorem dX6_findClosures_3 : decode cX6_findClosures 3 = .ok (.aload_n 0, 1) := by decide +kernel
theorem dX6_findClosures_4 : decode cX6_findClosures 4 = .ok (.getfield 18, 3) := by decide +kernel
theorem dX6_findClosures_7 : decode cX6_findClosures 7 = .ok (.if_icmp .ge 18, 3) := by decide +kernel
theorem dX6_findClosures_10 : decode cX6_findClosures 10 = .ok (.aload_n 0, 1) := by decide +kernel
theorem dX6_findClosures_11 : decode cX6_findClosures 11 = .ok (.getfield 9, 3) := by decide +kernel
theorem dX6_findClosures_14 : decode cX6_findClosures 14 = .ok (.iload_n 2, 1) := by decide +kernel
theorem dX6_findClosures_15 : decode cX6_findClosures 15 = .ok (.iconst 1, 1) := by decide +kernel
theorem dX6_findClosures_16 : decode cX6_findClosures 16 = .ok (.iload_n 2, 1) := by decide +kernel
theorem dX6_findClosures_17 : decode cX6_findClosures 17 = .ok (.ishl, 1) := by decide +kernel
theorem dX6_findClosures_18 : decode cX6_findClosures 18 = .ok (.iastore, 1) := by decide +kernel
theorem dX6_findClosures_19 : decode cX6_findClosures 19 = .ok (.iinc 2 1, 3) := by decide +kernel
theorem dX6_findClosures_22 : decode cX6_findClosures 22 = .ok (.goto (-20), 3) := by decide +kernel
theorem dX6_findClosures_25 : decode cX6_findClosures 25 = .ok (.iconst 1, 1) := by decide +kernel
theorem dX6_findClosures_26 : decode cX6_findClosures 26 = .ok (.istore_n 2, 1) := by decide +kernel
theorem dX6_findClosures_27 : decode cX6_findClosures 27 = .ok (.iconst 0, 1) := by decide +kernel
theorem dX6_findClosures_28 : decode cX6_findClosures 28 = .ok (.istore_n 3, 1) := by decide +kernel
theorem dX6_findClosures_29 : decode cX6_findClosures 29 = .ok (.iload_n 2, 1) := by decide +kernel
theorem dX6_findClosures_30 : decode cX6_findClosures 30 = .ok (.ifCond .eq 114, 3) := by decide +kernel
theorem dX6_findClosures_33 : decode cX6_findClosures 33 = .ok (.iload_n 3, 1) := by decide +kernel
theorem dX6_findClosures_34 : decode cX6_findClosures 34 = .ok (.aload_n 0, 1) := by decide +kernel
theorem dX6_findClosures_35 : decode cX6_findClosures 35 = .ok (.getfield 18, 3) := by decide +kernel
theorem dX6_findClosures_38 : decode cX6_findClosures 38 = .ok (.if_icmp .ge 106, 3) := by decide +kernel
theorem dX6_findClosures_41 : decode cX6_findClosures 41 = .ok (.iconst 0, 1) := by decide +kernel
theorem dX6_findClosures_42 : decode cX6_findClosures 42 = .ok (.istore_n 2, 1) := by decide +kernel
theorem dX6_findClosures_43 : decode cX6_findClosures 43 = .ok (.iconst 0, 1) := by decide +kernel
theorem dX6_findClosures_44 : decode cX6_findClosures 44 = .ok (.istore 4, 2) := by decide +kernel
theorem dX6_findClosures_46 : decode cX6_findClosures 46 = .ok (.iload 4, 2) := by decide +kernel
theorem dX6_findClosures_48 : decode cX6_findClosures 48 = .ok (.aload_n 1, 1) := by decide +kernel
theorem dX6_findClosures_49 : decode cX6_findClosures 49 = .ok (.getfield 33, 3) := by decide +kernel
theorem dX6_findClosures_52 : decode cX6_findClosures 52 = .ok (.getfield 37, 3) := by decide +kernel
theorem dX6_findClosures_55 : decode cX6_findClosures 55 = .ok (.if_icmp .ge 83, 3) := by decide +kernel
theorem dX6_findClosures_58 : decode cX6_findClosures 58 = .ok (.aload_n 1, 1) := by decide +kernel
theorem dX6_findClosures_59 : decode cX6_findClosures 59 = .ok (.getfield 33, 3) := by decide +kernel
theorem dX6_findClosures_62 : decode cX6_findClosures 62 = .ok (.getfield 42, 3) := by decide +kernel
theorem dX6_findClosures_65 : decode cX6_findClosures 65 = .ok (.iload 4, 2) := by decide +kernel
theorem dX6_findClosures_67 : decode cX6_findClosures 67 = .ok (.iaload, 1) := by decide +kernel
theorem dX6_findClosures_68 : decode cX6_findClosures 68 = .ok (.istore 5, 2) := by decide +kernel
theorem dX6_findClosures_70 : decode cX6_findClosures 70 = .ok (.aload_n 0, 1) := by decide +kernel
theorem dX6_findClosures_71 : decode cX6_findClosures 71 = .ok (.getfield 9, 3) := by decide +kernel
theorem dX6_findClosures_74 : decode cX6_findClosures 74 = .ok (.iload 5, 2) := by decide +kernel
theorem dX6_findClosures_76 : decode cX6_findClosures 76 = .ok (.invokestatic 49, 3) := by decide +kernel
theorem dX6_findClosures_79 : decode cX6_findClosures 79 = .ok (.iaload, 1) := by decide +kernel
theorem dX6_findClosures_80 : decode cX6_findClosures 80 = .ok (.aload_n 0, 1) := by decide +kernel
theorem dX6_findClosures_81 : decode cX6_findClosures 81 = .ok (.getfield 9, 3) := by decide +kernel
theorem dX6_findClosures_84 : decode cX6_findClosures 84 = .ok (.iload 5, 2) := by decide +kernel
theorem dX6_findClosures_86 : decode cX6_findClosures 86 = .ok (.invokestatic 52, 3) := by decide +kernel
theorem dX6_findClosures_89 : decode cX6_findClosures 89 = .ok (.iaload, 1) := by decide +kernel
theorem dX6_findClosures_90 : decode cX6_findClosures 90 = .ok (.ior, 1) := by decide +kernel
theorem dX6_findClosures_91 : decode cX6_findClosures 91 = .ok (.istore 6, 2) := by decide +kernel
theorem dX6_findClosures_93 : decode cX6_findClosures 93 = .ok (.iload 5, 2) := by decide +kernel
theorem dX6_findClosures_95 : decode cX6_findClosures 95 = .ok (.invokestatic 45, 3) := by decide +kernel
theorem dX6_findClosures_98 : decode cX6_findClosures 98 = .ok (.bipush 8, 2) := by decide +kernel
theorem dX6_findClosures_100 : decode cX6_findClosures 100 = .ok (.if_icmp .ne 32, 3) := by decide +kernel
theorem dX6_findClosures_103 : decode cX6_findClosures 103 = .ok (.iload 6, 2) := by decide +kernel
theorem dX6_findClosures_105 : decode cX6_findClosures 105 = .ok (.aload_n 0, 1) := by decide +kernel
theorem dX6_findClosures_106 : decode cX6_findClosures 106 = .ok (.getfield 9, 3) := by decide +kernel
theorem dX6_findClosures_109 : decode cX6_findClosures 109 = .ok (.iload 5, 2) := by decide +kernel
theorem dX6_findClosures_111 : decode cX6_findClosures 111 = .ok (.invokestatic 49, 3) := by decide +kernel
theorem dX6_findClosures_114 : decode cX6_findClosures 114 = .ok (.iaload, 1) := by decide +kernel
theorem dX6_findClosures_115 : decode cX6_findClosures 115 = .ok (.if_icmp .eq 17, 3) := by decide +kernel
theorem dX6_findClosures_118 : decode cX6_findClosures 118 = .ok (.aload_n 0, 1) := by decide +kernel
theorem dX6_findClosures_119 : decode cX6_findClosures 119 = .ok (.getfield 9, 3) := by decide +kernel
theorem dX6_findClosures_122 : decode cX6_findClosures 122 = .ok (.iload 5, 2) := by decide +kernel
theorem dX6_findClosures_124 : decode cX6_findClosures 124 = .ok (.invokestatic 49, 3) := by decide +kernel
theorem dX6_findClosures_127 : decode cX6_findClosures 127 = .ok (.iload 6, 2) := by decide +kernel
theorem dX6_findClosures_129 : decode cX6_findClosures 129 = .ok (.iastore, 1) := by decide +kernel
theorem dX6_findClosures_130 : decode cX6_findClosures 130 = .ok (.iconst 1, 1) := by decide +kernel
theorem dX6_findClosures_131 : decode cX6_findClosures 131 = .ok (.istore_n 2, 1) := by decide +kernel
theorem dX6_findClosures_132 : decode cX6_findClosures 132 = .ok (.iinc 4 1, 3) := by decide +kernel
theorem dX6_findClosures_135 : decode cX6_findClosures 135 = .ok (.goto (-89), 3) := by decide +kernel
theorem dX6_findClosures_138 : decode cX6_findClosures 138 = .ok (.iinc 3 1, 3) := by decide +kernel
theorem dX6_findClosures_141 : decode cX6_findClosures 141 = .ok (.goto (-112), 3) := by decide +kernel
theorem dX6_findClosures_144 : decode cX6_findClosures 144 = .ok (.return_, 1) := by decide +kernel
theorem dX6_firstSet_0 : decode cX6_firstSet 0 = .ok (.aload_n 0, 1) := by decide +kernel
theorem dX6_firstSet_1 : decode cX6_firstSet 1 = .ok (.getfield 18, 3) := by decide +kernel
theorem dX6_firstSet_4 : decode cX6_firstSet 4 = .ok (.ifCond .ne 7, 3) := by decide +kernel
theorem dX6_firstSet_7 : decode cX6_firstSet 7 = .ok (.iconst 0, 1) := by decide +kernel
theorem dX6_firstSet_8 : decode cX6_firstSet 8 = .ok (.goto 9, 3) := by decide +kernel
theorem dX6_firstSet_11 : decode cX6_firstSet 11 = .ok (.aload_n 0, 1) := by decide +kernel
theorem dX6_firstSet_12 : decode cX6_firstSet 12 = .ok (.getfield 9, 3) := by decide +kernel
theorem dX6_firstSet_15 : decode cX6_firstSet 15 = .ok (.iconst 0, 1) := by decide +kernel
theorem dX6_firstSet_16 : decode cX6_firstSet 16 = .ok (.iaload, 1) := by decide +kernel
theorem dX6_firstSet_17 : decode cX6_firstSet 17 = .ok (.ireturn, 1) := by decide +kernel
set_option maxRecDepth 20000 in
theorem ggX6_setBehind_X7_holds : GoodIn wsX6_setBehind wsX7_holds := goodIn_g _ [(5, 1)] (by exact rfl) (by decide +kernel)
set_option maxRecDepth 20000 in
theorem gX6_setBehind_X7_holds_n55 : GoodIn wsX6_setBehind (wsX7_holds) := ggX6_setBehind_X7_holds
theorem dX6_setBehind_0 : decode cX6_setBehind 0 = .ok (.iconst 0, 1) := by decide +kernel
theorem dX6_setBehind_1 : decode cX6_setBehind 1 = .ok (.istore_n 3, 1) := by decide +kernel
theorem dX6_setBehind_2 : decode cX6_setBehind 2 = .ok (.iconst 0, 1) := by decide +kernel
theorem dX6_setBehind_3 : decode cX6_setBehind 3 = .ok (.istore 4, 2) := by decide +kernel
theorem dX6_setBehind_5 : decode cX6_setBehind 5 = .ok (.iload 4, 2) := by decide +kernel
theorem dX6_setBehind_7 : decode cX6_setBehind 7 = .ok (.aload_n 0, 1) := by decide +kernel
theorem dX6_setBehind_8 : decode cX6_setBehind 8 = .ok (.getfield 18, 3) := by decide +kernel
theorem dX6_setBehind_11 : decode cX6_setBehind 11 = .ok (.if_icmp .ge 33, 3) := by decide +kernel
theorem dX6_setBehind_14 : decode cX6_setBehind 14 = .ok (.iload_n 1, 1) := by decide +kernel
theorem dX6_setBehind_15 : decode cX6_setBehind 15 = .ok (.iload 4, 2) := by decide +kernel
theorem dX6_setBehind_17 : decode cX6_setBehind 17 = .ok (.invokestatic 55, 3) := by decide +kernel
theorem dX6_setBehind_20 : decode cX6_setBehind 20 = .ok (.ifCond .eq 18, 3) := by decide +kernel
theorem dX6_setBehind_23 : decode cX6_setBehind 23 = .ok (.iload_n 3, 1) := by decide +kernel
theorem dX6_setBehind_24 : decode cX6_setBehind 24 = .ok (.aload_n 0, 1) := by decide +kernel
theorem dX6_setBehind_25 : decode cX6_setBehind 25 = .ok (.getfield 15, 3) := by decide +kernel
theorem dX6_setBehind_28 : decode cX6_setBehind 28 = .ok (.iload 4, 2) := by decide +kernel
theorem dX6_setBehind_30 : decode cX6_setBehind 30 = .ok (.bipush 8, 2) := by decide +kernel
theorem dX6_setBehind_32 : decode cX6_setBehind 32 = .ok (.imul, 1) := by decide +kernel
theorem dX6_setBehind_33 : decode cX6_setBehind 33 = .ok (.iload_n 2, 1) := by decide +kernel
theorem dX6_setBehind_34 : decode cX6_setBehind 34 = .ok (.iadd, 1) := by decide +kernel
theorem dX6_setBehind_35 : decode cX6_setBehind 35 = .ok (.iaload, 1) := by decide +kernel
theorem dX6_setBehind_36 : decode cX6_setBehind 36 = .ok (.ior, 1) := by decide +kernel
theorem dX6_setBehind_37 : decode cX6_setBehind 37 = .ok (.istore_n 3, 1) := by decide +kernel
theorem dX6_setBehind_38 : decode cX6_setBehind 38 = .ok (.iinc 4 1, 3) := by decide +kernel
theorem dX6_setBehind_41 : decode cX6_setBehind 41 = .ok (.goto (-36), 3) := by decide +kernel
theorem dX6_setBehind_44 : decode cX6_setBehind 44 = .ok (.iload_n 3, 1) := by decide +kernel
theorem dX6_setBehind_45 : decode cX6_setBehind 45 = .ok (.ireturn, 1) := by decide +kernel
theorem dX6_hasEndIn_0 : decode cX6_hasEndIn 0 = .ok (.iload_n 1, 1) := by decide +kernel
theorem dX6_hasEndIn_1 : decode cX6_hasEndIn 1 = .ok (.aload_n 0, 1) := by decide +kernel
theorem dX6_hasEndIn_2 : decode cX6_hasEndIn 2 = .ok (.getfield 22, 3) := by decide +kernel
theorem dX6_hasEndIn_5 : decode cX6_hasEndIn 5 = .ok (.iand, 1) := by decide +kernel
theorem dX6_hasEndIn_6 : decode cX6_hasEndIn 6 = .ok (.ifCond .eq 7, 3) := by decide +kernel
theorem dX6_hasEndIn_9 : decode cX6_hasEndIn 9 = .ok (.iconst 1, 1) := by decide +kernel
theorem dX6_hasEndIn_10 : decode cX6_hasEndIn 10 = .ok (.goto 4, 3) := by decide +kernel
theorem dX6_hasEndIn_13 : decode cX6_hasEndIn 13 = .ok (.iconst 0, 1) := by decide +kernel
theorem dX6_hasEndIn_14 : decode cX6_hasEndIn 14 = .ok (.ireturn, 1) := by decide +kernel
set_option maxRecDepth 20000 in
theorem ggX7_init_X3_init : GoodIn wsX7_init wsX3_init := goodIn_g _ [(29, 2), (2, 2), (31, 9), (4, 1), (40, 3), (171, 3), (122, 3)] (by exact rfl) (by decide +kernel)
set_option maxRecDepth 20000 in
theorem gX7_init_X3_init_n23 : GoodIn wsX7_init (wsX3_init) := ggX7_init_X3_init
set_option maxRecDepth 20000 in
theorem ggX7_init_X1_init : GoodIn wsX7_init wsX1_init := goodIn_g _ [(44, 2), (2, 3), (46, 14), (32, 2), (60, 1), (37, 6), (125, 13), (171, 3)] (by exact rfl) (by decide +kernel)
set_option maxRecDepth 20000 in
theorem gX7_init_X1_init_n29 : GoodIn wsX7_init (wsX1_init) := ggX7_init_X1_init
set_option maxRecDepth 20000 in
theorem ggX7_init_X5_init : GoodIn wsX7_init wsX5_init := goodIn_g _ [(62, 2), (2, 2), (64, 6), (4, 1), (70, 6), (48, 1), (76, 11), (174, 4), (138, 13)] (by exact rfl) (by decide +kernel)
set_option maxRecDepth 20000 in
theorem gX7_init_X5_init_n36 : GoodIn wsX7_init (wsX5_init) := ggX7_init_X5_init
set_option maxRecDepth 20000 in
theorem ggX7_init_X4_init : GoodIn wsX7_init wsX4_init := goodIn_g _ [(88, 2), (2, 3), (90, 3), (9, 2), (93, 12), (28, 15), (151, 14), (122, 3), (171, 3)] (by exact rfl) (by decide +kernel)
set_option maxRecDepth 20000 in
theorem gX7_init_X4_init_n43 : GoodIn wsX7_init (wsX4_init) := ggX7_init_X4_init
set_option maxRecDepth 20000 in
theorem ggX7_init_X2_init : GoodIn wsX7_init wsX2_init := goodIn_g _ [(106, 2), (2, 3), (108, 6), (165, 6)] (by exact rfl) (by decide +kernel)
set_option maxRecDepth 20000 in
theorem gX7_init_X2_init_n50 : GoodIn wsX7_init (wsX2_init) := ggX7_init_X2_init
theorem dX7_init_0 : decode cX7_init 0 = .ok (.aload_n 0, 1) := by decide +kernel
theorem dX7_init_1 : decode cX7_init 1 = .ok (.invokespecial 3, 3) := by decide +kernel
theorem dX7_init_4 : decode cX7_init 4 = .ok (.aload_n 0, 1) := by decide +kernel
theorem dX7_init_5 : decode cX7_init 5 = .ok (.bipush 8, 2) := by decide +kernel
theorem dX7_init_7 : decode cX7_init 7 = .ok (.newarray .int, 2) := by decide +kernel
theorem dX7_init_9 : decode cX7_init 9 = .ok (.putfield 9, 3) := by decide +kernel
theorem dX7_init_12 : decode cX7_init 12 = .ok (.aload_n 0, 1) := by decide +kernel
theorem dX7_init_13 : decode cX7_init 13 = .ok (.iconst 0, 1) := by decide +kernel
theorem dX7_init_14 : decode cX7_init 14 = .ok (.putfield 13, 3) := by decide +kernel
theorem dX7_init_17 : decode cX7_init 17 = .ok (.aload_n 0, 1) := by decide +kernel
theorem dX7_init_18 : decode cX7_init 18 = .ok (.bipush 24, 2) := by decide +kernel
theorem dX7_init_20 : decode cX7_init 20 = .ok (.anewarray 17, 3) := by decide +kernel
theorem dX7_init_23 : decode cX7_init 23 = .ok (.putfield 19, 3) := by decide +kernel
theorem dX7_init_26 : decode cX7_init 26 = .ok (.iconst 0, 1) := by decide +kernel
theorem dX7_init_27 : decode cX7_init 27 = .ok (.istore_n 1, 1) := by decide +kernel
theorem dX7_init_28 : decode cX7_init 28 = .ok (.iload_n 1, 1) := by decide +kernel
theorem dX7_init_29 : decode cX7_init 29 = .ok (.bipush 24, 2) := by decide +kernel
theorem dX7_init_31 : decode cX7_init 31 = .ok (.if_icmp .ge 22, 3) := by decide +kernel
theorem dX7_init_34 : decode cX7_init 34 = .ok (.aload_n 0, 1) := by decide +kernel
theorem dX7_init_35 : decode cX7_init 35 = .ok (.getfield 19, 3) := by decide +kernel
theorem dX7_init_38 : decode cX7_init 38 = .ok (.iload_n 1, 1) := by decide +kernel
theorem dX7_init_39 : decode cX7_init 39 = .ok (.new 17, 3) := by decide +kernel
theorem dX7_init_42 : decode cX7_init 42 = .ok (.dup, 1) := by decide +kernel
theorem dX7_init_43 : decode cX7_init 43 = .ok (.invokespecial 23, 3) := by decide +kernel
theorem dX7_init_46 : decode cX7_init 46 = .ok (.aastore, 1) := by decide +kernel
theorem dX7_init_47 : decode cX7_init 47 = .ok (.iinc 1 1, 3) := by decide +kernel
theorem dX7_init_50 : decode cX7_init 50 = .ok (.goto (-22), 3) := by decide +kernel
theorem dX7_init_53 : decode cX7_init 53 = .ok (.aload_n 0, 1) := by decide +kernel
theorem dX7_init_54 : decode cX7_init 54 = .ok (.iconst 0, 1) := by decide +kernel
theorem dX7_init_55 : decode cX7_init 55 = .ok (.putfield 24, 3) := by decide +kernel
theorem dX7_init_58 : decode cX7_init 58 = .ok (.aload_n 0, 1) := by decide +kernel
theorem dX7_init_59 : decode cX7_init 59 = .ok (.new 27, 3) := by decide +kernel
theorem dX7_init_62 : decode cX7_init 62 = .ok (.dup, 1) := by decide +kernel
theorem dX7_init_63 : decode cX7_init 63 = .ok (.invokespecial 29, 3) := by decide +kernel
theorem dX7_init_66 : decode cX7_init 66 = .ok (.putfield 30, 3) := by decide +kernel
theorem dX7_init_69 : decode cX7_init 69 = .ok (.aload_n 0, 1) := by decide +kernel
theorem dX7_init_70 : decode cX7_init 70 = .ok (.new 34, 3) := by decide +kernel
theorem dX7_init_73 : decode cX7_init 73 = .ok (.dup, 1) := by decide +kernel
theorem dX7_init_74 : decode cX7_init 74 = .ok (.invokespecial 36, 3) := by decide +kernel
theorem dX7_init_77 : decode cX7_init 77 = .ok (.putfield 37, 3) := by decide +kernel
theorem dX7_init_80 : decode cX7_init 80 = .ok (.aload_n 0, 1) := by decide +kernel
theorem dX7_init_81 : decode cX7_init 81 = .ok (.new 41, 3) := by decide +kernel
theorem dX7_init_84 : decode cX7_init 84 = .ok (.dup, 1) := by decide +kernel
theorem dX7_init_85 : decode cX7_init 85 = .ok (.invokespecial 43, 3) := by decide +kernel
theorem dX7_init_88 : decode cX7_init 88 = .ok (.putfield 44, 3) := by decide +kernel
theorem dX7_init_91 : decode cX7_init 91 = .ok (.aload_n 0, 1) := by decide +kernel
theorem dX7_init_92 : decode cX7_init 92 = .ok (.new 48, 3) := by decide +kernel
theorem dX7_init_95 : decode cX7_init 95 = .ok (.dup, 1) := by decide +kernel
theorem dX7_init_96 : decode cX7_init 96 = .ok (.invokespecial 50, 3) := by decide +kernel
theorem dX7_init_99 : decode cX7_init 99 = .ok (.putfield 51, 3) := by decide +kernel
theorem dX7_init_102 : decode cX7_init 102 = .ok (.return_, 1) := by decide +kernel
set_option maxRecDepth 20000 in
theorem ggX7_type_X7_isLetter : GoodIn wsX7_type wsX7_isLetter := goodIn_g _ [(10, 1)] (by exact rfl) (by decide +kernel)
set_option maxRecDepth 20000 in
theorem gX7_type_X7_isLetter : GoodIn wsX7_type (va_wsS RX7 55 yX7_isLetter wsX7_isLetter) := goodIn_app (goodIn_of _ (by decide +kernel)) ggX7_type_X7_isLetter
theorem dX7_type_0 : decode cX7_type 0 = .ok (.iload_n 1, 1) := by decide +kernel
theorem dX7_type_1 : decode cX7_type 1 = .ok (.invokestatic 55, 3) := by decide +kernel
theorem dX7_type_4 : decode cX7_type 4 = .ok (.ifCond .ne 13, 3) := by decide +kernel
theorem dX7_type_7 : decode cX7_type 7 = .ok (.new 59, 3) := by decide +kernel
theorem dX7_type_10 : decode cX7_type 10 = .ok (.dup, 1) := by decide +kernel
theorem dX7_type_11 : decode cX7_type 11 = .ok (.ldc 61, 2) := by decide +kernel
theorem dX7_type_13 : decode cX7_type 13 = .ok (.invokespecial 63, 3) := by decide +kernel
theorem dX7_type_16 : decode cX7_type 16 = .ok (.athrow, 1) := by decide +kernel
theorem dX7_type_17 : decode cX7_type 17 = .ok (.aload_n 0, 1) := by decide +kernel
theorem dX7_type_18 : decode cX7_type 18 = .ok (.getfield 13, 3) := by decide +kernel
theorem dX7_type_21 : decode cX7_type 21 = .ok (.bipush 8, 2) := by decide +kernel
theorem dX7_type_23 : decode cX7_type 23 = .ok (.if_icmp .lt 13, 3) := by decide +kernel
theorem dX7_type_26 : decode cX7_type 26 = .ok (.new 66, 3) := by decide +kernel
theorem dX7_type_29 : decode cX7_type 29 = .ok (.dup, 1) := by decide +kernel
theorem dX7_type_30 : decode cX7_type 30 = .ok (.ldc 68, 2) := by decide +kernel
theorem dX7_type_32 : decode cX7_type 32 = .ok (.invokespecial 70, 3) := by decide +kernel
theorem dX7_type_35 : decode cX7_type 35 = .ok (.athrow, 1) := by decide +kernel
theorem dX7_type_36 : decode cX7_type 36 = .ok (.aload_n 0, 1) := by decide +kernel
theorem dX7_type_37 : decode cX7_type 37 = .ok (.getfield 9, 3) := by decide +kernel
theorem dX7_type_40 : decode cX7_type 40 = .ok (.aload_n 0, 1) := by decide +kernel
theorem dX7_type_41 : decode cX7_type 41 = .ok (.getfield 13, 3) := by decide +kernel
theorem dX7_type_44 : decode cX7_type 44 = .ok (.iload_n 1, 1) := by decide +kernel
theorem dX7_type_45 : decode cX7_type 45 = .ok (.iastore, 1) := by decide +kernel
theorem dX7_type_46 : decode cX7_type 46 = .ok (.aload_n 0, 1) := by decide +kernel
theorem dX7_type_47 : decode cX7_type 47 = .ok (.dup, 1) := by decide +kernel
theorem dX7_type_48 : decode cX7_type 48 = .ok (.getfield 13, 3) := by decide +kernel
theorem dX7_type_51 : decode cX7_type 51 = .ok (.iconst 1, 1) := by decide +kernel
theorem dX7_type_52 : decode cX7_type 52 = .ok (.iadd, 1) := by decide +kernel
theorem dX7_type_53 : decode cX7_type 53 = .ok (.putfield 13, 3) := by decide +kernel
theorem dX7_type_56 : decode cX7_type 56 = .ok (.aload_n 0, 1) := by decide +kernel
theorem dX7_type_57 : decode cX7_type 57 = .ok (.getfield 13, 3) := by decide +kernel
theorem dX7_type_60 : decode cX7_type 60 = .ok (.ireturn, 1) := by decide +kernel
theorem dX7_clear_0 : decode cX7_clear 0 = .ok (.aload_n 0, 1) := by decide +kernel
theorem dX7_clear_1 : decode cX7_clear 1 = .ok (.getfield 13, 3) := by decide +kernel
theorem dX7_clear_4 : decode cX7_clear 4 = .ok (.istore_n 1, 1) := by decide +kernel
theorem dX7_clear_5 : decode cX7_clear 5 = .ok (.aload_n 0, 1) := by decide +kernel
theorem dX7_clear_6 : decode cX7_clear 6 = .ok (.iconst 0, 1) := by decide +kernel
theorem dX7_clear_7 : decode cX7_clear 7 = .ok (.putfield 13, 3) := by decide +kernel
theorem dX7_clear_10 : decode cX7_clear 10 = .ok (.iload_n 1, 1) := by decide +kernel
theorem dX7_clear_11 : decode cX7_clear 11 = .ok (.ireturn, 1) := by decide +kernel
set_option maxRecDepth 20000 in
theorem ggX7_pair_X7_isLetterOrEmpty : GoodIn wsX7_pair wsX7_isLetterOrEmpty := goodIn_g _ [(7, 3), (6, 1), (10, 1)] (by exact rfl) (by decide +kernel)
set_option maxRecDepth 20000 in
theorem gX7_pair_X7_isLetterOrEmpty : GoodIn wsX7_pair (va_wsS RX7 71 yX7_isLetterOrEmpty wsX7_isLetterOrEmpty) := goodIn_app (goodIn_of _ (by decide +kernel)) ggX7_pair_X7_isLetterOrEmpty
set_option maxRecDepth 20000 in
theorem ggX7_pair_X1_begin : GoodIn wsX7_pair wsX1_begin := goodIn_g _ [(15, 9), (130, 13)] (by exact rfl) (by decide +kernel)
set_option maxRecDepth 20000 in
theorem gX7_pair_X1_begin : GoodIn wsX7_pair (wsV RX7 76 RX1 yX1_begin wsX1_begin) := goodIn_app (goodIn_of _ (by decide +kernel)) ggX7_pair_X1_begin
set_option maxRecDepth 20000 in
theorem ggX7_pair_X1_addArc : GoodIn wsX7_pair wsX1_addArc := goodIn_g _ [(27, 1), (22, 1), (20, 1), (28, 3), (6, 1), (31, 1), (130, 13)] (by exact rfl) (by decide +kernel)
set_option maxRecDepth 20000 in
theorem gX7_pair_X1_addArc : GoodIn wsX7_pair (wsV RX7 80 RX1 yX1_addArc wsX1_addArc) := goodIn_app (goodIn_of _ (by decide +kernel)) ggX7_pair_X1_addArc
set_option maxRecDepth 20000 in
theorem ggX7_pair_X1_addEnd : GoodIn wsX7_pair wsX1_addEnd := goodIn_g _ [(35, 1), (20, 1), (23, 1), (130, 13)] (by exact rfl) (by decide +kernel)
set_option maxRecDepth 20000 in
theorem gX7_pair_X1_addEnd : GoodIn wsX7_pair (wsV RX7 84 RX1 yX1_addEnd wsX1_addEnd) := goodIn_app (goodIn_of _ (by decide +kernel)) ggX7_pair_X1_addEnd
set_option maxRecDepth 20000 in
theorem ggX7_pair_X7_keepDraft : GoodIn wsX7_pair wsX7_keepDraft := goodIn_ca (goodIn_g _ [(39, 4), (3, 1), (43, 4), (14, 1), (47, 6), (21, 1), (53, 4), (20, 1), (57, 7), (22, 1), (28, 1), (64, 2), (6, 1), (66, 11), (23, 1), (77, 5), (29, 1), (82, 9), (17, 3), (91, 18), (30, 2), (109, 21), (143, 6), (130, 13)] (by exact rfl) (by decide +kernel)) (goodIn_sub (fun _ h => List.mem_cons_of_mem _ (List.mem_append_right _ h)) (by decide +kernel))
set_option maxRecDepth 20000 in
theorem gX7_pair_X7_keepDraft : GoodIn wsX7_pair (wsV RX7 88 RX7 yX7_keepDraft wsX7_keepDraft) := goodIn_app (goodIn_of _ (by decide +kernel)) ggX7_pair_X7_keepDraft
theorem dX7_pair_0 : decode cX7_pair 0 = .ok (.iload_n 1, 1) := by decide +kernel
theorem dX7_pair_1 : decode cX7_pair 1 = .ok (.invokestatic 71, 3) := by decide +kernel
theorem dX7_pair_4 : decode cX7_pair 4 = .ok (.ifCond .eq 10, 3) := by decide +kernel
theorem dX7_pair_7 : decode cX7_pair 7 = .ok (.iload_n 2, 1) := by decide +kernel
theorem dX7_pair_8 : decode cX7_pair 8 = .ok (.invokestatic 71, 3) := by decide +kernel
theorem dX7_pair_11 : decode cX7_pair 11 = .ok (.ifCond .ne 13, 3) := by decide +kernel
theorem dX7_pair_14 : decode cX7_pair 14 = .ok (.new 59, 3) := by decide +kernel
theorem dX7_pair_17 : decode cX7_pair 17 = .ok (.dup, 1) := by decide +kernel
theorem dX7_pair_18 : decode cX7_pair 18 = .ok (.ldc 61, 2) := by decide +kernel
theorem dX7_pair_20 : decode cX7_pair 20 = .ok (.invokespecial 63, 3) := by decide +kernel
theorem dX7_pair_23 : decode cX7_pair 23 = .ok (.athrow, 1) := by decide +kernel
theorem dX7_pair_24 : decode cX7_pair 24 = .ok (.iload_n 3, 1) := by decide +kernel
theorem dX7_pair_25 : decode cX7_pair 25 = .ok (.ifCond .lt 9, 3) := by decide +kernel
theorem dX7_pair_28 : decode cX7_pair 28 = .ok (.iload_n 3, 1) := by decide +kernel
theorem dX7_pair_29 : decode cX7_pair 29 = .ok (.bipush 100, 2) := by decide +kernel
theorem dX7_pair_31 : decode cX7_pair 31 = .ok (.if_icmp .le 13, 3) := by decide +kernel
theorem dX7_pair_34 : decode cX7_pair 34 = .ok (.new 59, 3) := by decide +kernel
theorem dX7_pair_37 : decode cX7_pair 37 = .ok (.dup, 1) := by decide +kernel
theorem dX7_pair_38 : decode cX7_pair 38 = .ok (.ldc 74, 2) := by decide +kernel
theorem dX7_pair_40 : decode cX7_pair 40 = .ok (.invokespecial 63, 3) := by decide +kernel
theorem dX7_pair_43 : decode cX7_pair 43 = .ok (.athrow, 1) := by decide +kernel
theorem dX7_pair_44 : decode cX7_pair 44 = .ok (.aload_n 0, 1) := by decide +kernel
theorem dX7_pair_45 : decode cX7_pair 45 = .ok (.getfield 30, 3) := by decide +kernel
theorem dX7_pair_48 : decode cX7_pair 48 = .ok (.iconst 2, 1) := by decide +kernel
theorem dX7_pair_49 : decode cX7_pair 49 = .ok (.iconst 0, 1) := by decide +kernel
theorem dX7_pair_50 : decode cX7_pair 50 = .ok (.invokevirtual 76, 3) := by decide +kernel
theorem dX7_pair_53 : decode cX7_pair 53 = .ok (.aload_n 0, 1) := by decide +kernel
theorem dX7_pair_54 : decode cX7_pair 54 = .ok (.getfield 30, 3) := by decide +kernel
theorem dX7_pair_57 : decode cX7_pair 57 = .ok (.iconst 0, 1) := by decide +kernel
theorem dX7_pair_58 : decode cX7_pair 58 = .ok (.iload_n 1, 1) := by decide +kernel
theorem dX7_pair_59 : decode cX7_pair 59 = .ok (.iload_n 2, 1) := by decide +kernel
theorem dX7_pair_60 : decode cX7_pair 60 = .ok (.iload_n 3, 1) := by decide +kernel
theorem dX7_pair_61 : decode cX7_pair 61 = .ok (.iconst 1, 1) := by decide +kernel
theorem dX7_pair_62 : decode cX7_pair 62 = .ok (.invokevirtual 80, 3) := by decide +kernel
theorem dX7_pair_65 : decode cX7_pair 65 = .ok (.aload_n 0, 1) := by decide +kernel
theorem dX7_pair_66 : decode cX7_pair 66 = .ok (.getfield 30, 3) := by decide +kernel
theorem dX7_pair_69 : decode cX7_pair 69 = .ok (.iconst 1, 1) := by decide +kernel
theorem dX7_pair_70 : decode cX7_pair 70 = .ok (.invokevirtual 84, 3) := by decide +kernel
theorem dX7_pair_73 : decode cX7_pair 73 = .ok (.aload_n 0, 1) := by decide +kernel
theorem dX7_pair_74 : decode cX7_pair 74 = .ok (.invokevirtual 88, 3) := by decide +kernel
theorem dX7_pair_77 : decode cX7_pair 77 = .ok (.ireturn, 1) := by decide +kernel
set_option maxRecDepth 20000 in
theorem ggX7_word_X1_begin : GoodIn wsX7_word wsX1_begin := goodIn_g _ [(8, 9), (124, 13)] (by exact rfl) (by decide +kernel)
set_option maxRecDepth 20000 in
theorem gX7_word_X1_begin : GoodIn wsX7_word (wsV RX7 76 RX1 yX1_begin wsX1_begin) := goodIn_app (goodIn_of _ (by decide +kernel)) ggX7_word_X1_begin
set_option maxRecDepth 20000 in
theorem ggX7_word_X1_addArc : GoodIn wsX7_word wsX1_addArc := goodIn_g _ [(20, 1), (15, 1), (13, 1), (21, 5), (124, 13)] (by exact rfl) (by decide +kernel)
set_option maxRecDepth 20000 in
theorem gX7_word_X1_addArc : GoodIn wsX7_word (wsV RX7 80 RX1 yX1_addArc wsX1_addArc) := goodIn_app (goodIn_of _ (by decide +kernel)) ggX7_word_X1_addArc
set_option maxRecDepth 20000 in
theorem ggX7_word_X1_addEnd : GoodIn wsX7_word wsX1_addEnd := goodIn_g _ [(29, 1), (13, 1), (16, 1), (124, 13)] (by exact rfl) (by decide +kernel)
set_option maxRecDepth 20000 in
theorem gX7_word_X1_addEnd : GoodIn wsX7_word (wsV RX7 84 RX1 yX1_addEnd wsX1_addEnd) := goodIn_app (goodIn_of _ (by decide +kernel)) ggX7_word_X1_addEnd
set_option maxRecDepth 20000 in
theorem ggX7_word_X7_keepDraft : GoodIn wsX7_word wsX7_keepDraft := goodIn_ca (goodIn_g _ [(33, 4), (1, 1), (37, 4), (7, 1), (41, 6), (14, 1), (47, 4), (13, 1), (51, 7), (15, 1), (21, 1), (58, 2), (24, 1), (60, 11), (16, 1), (71, 5), (22, 1), (76, 9), (10, 3), (85, 18), (23, 1), (25, 1), (103, 21), (137, 6), (124, 13)] (by exact rfl) (by decide +kernel)) (goodIn_sub (fun _ h => List.mem_cons_of_mem _ (List.mem_append_right _ h)) (by decide +kernel))
set_option maxRecDepth 20000 in
theorem gX7_word_X7_keepDraft : GoodIn wsX7_word (wsV RX7 88 RX7 yX7_keepDraft wsX7_keepDraft) := goodIn_app (goodIn_of _ (by decide +kernel)) ggX7_word_X7_keepDraft
theorem dX7_word_0 : decode cX7_word 0 = .ok (.aload_n 0, 1) := by decide +kernel
theorem dX7_word_1 : decode cX7_word 1 = .ok (.getfield 30, 3) := by decide +kernel
theorem dX7_word_4 : decode cX7_word 4 = .ok (.aload_n 0, 1) := by decide +kernel
